section
-- ===== PART A: goes FIRST, ahead of the names: the tables' words, and 'selects' of the private methods out of them =====
/-- a private method of a class that the tables say can be made, by its rows of tables_1 -/
def lw_okq (q : MethodName × Nat) : Prop := (q.1.cls ≠ "java/lang/invoke/MethodHandle" ∧ q.1.cls ≠ "java/lang/invoke/VarHandle") ∧ Cond.instantiable q.1.cls q.2 ∈ tables_1 ∧ Cond.privateMethod q.1 ∈ tables_1 ∧ Cond.instanceMethod q.1 ∈ tables_1
theorem lw_p0 : lw_okq (⟨"RightsLimit", "goOnTo", "(I)Z"⟩, 8) := ⟨⟨by decide +kernel, by decide +kernel⟩, List.mem_of_getElem? (i := 12) (by decide +kernel), List.mem_of_getElem? (i := 243) (by decide +kernel), List.mem_of_getElem? (i := 244) (by decide +kernel)⟩
theorem lw_p1 : lw_okq (⟨"RightsLimit", "decide", "(IIII)V"⟩, 8) := ⟨⟨by decide +kernel, by decide +kernel⟩, List.mem_of_getElem? (i := 12) (by decide +kernel), List.mem_of_getElem? (i := 251) (by decide +kernel), List.mem_of_getElem? (i := 252) (by decide +kernel)⟩
theorem lw_p2 : lw_okq (⟨"RightsLimit", "firstLimitReached", "(III)I"⟩, 8) := ⟨⟨by decide +kernel, by decide +kernel⟩, List.mem_of_getElem? (i := 12) (by decide +kernel), List.mem_of_getElem? (i := 265) (by decide +kernel), List.mem_of_getElem? (i := 266) (by decide +kernel)⟩
theorem lw_p3 : lw_okq (⟨"RightsLimit", "decideBeyondLimits", "(III)V"⟩, 8) := ⟨⟨by decide +kernel, by decide +kernel⟩, List.mem_of_getElem? (i := 12) (by decide +kernel), List.mem_of_getElem? (i := 283) (by decide +kernel), List.mem_of_getElem? (i := 284) (by decide +kernel)⟩
theorem lw_p4 : lw_okq (⟨"RightsLimit", "mayWaive", "(II)Z"⟩, 8) := ⟨⟨by decide +kernel, by decide +kernel⟩, List.mem_of_getElem? (i := 12) (by decide +kernel), List.mem_of_getElem? (i := 311) (by decide +kernel), List.mem_of_getElem? (i := 312) (by decide +kernel)⟩
theorem lw_p5 : lw_okq (⟨"java/lang/Throwable", "fillInStackTrace", "(I)Ljava/lang/Throwable;"⟩, 6) := ⟨⟨by decide +kernel, by decide +kernel⟩, List.mem_of_getElem? (i := 422) (by decide +kernel), List.mem_of_getElem? (i := 420) (by decide +kernel), List.mem_of_getElem? (i := 421) (by decide +kernel)⟩
theorem lw_p6 : lw_okq (⟨"RightsLimitModel", "isTitle", "(I)Z"⟩, 33) := ⟨⟨by decide +kernel, by decide +kernel⟩, List.mem_of_getElem? (i := 465) (by decide +kernel), List.mem_of_getElem? (i := 586) (by decide +kernel), List.mem_of_getElem? (i := 587) (by decide +kernel)⟩
theorem lw_p7 : lw_okq (⟨"RightsLimitModel", "isNow", "(I)Z"⟩, 33) := ⟨⟨by decide +kernel, by decide +kernel⟩, List.mem_of_getElem? (i := 465) (by decide +kernel), List.mem_of_getElem? (i := 607) (by decide +kernel), List.mem_of_getElem? (i := 608) (by decide +kernel)⟩
theorem lw_p8 : lw_okq (⟨"RightsLimitModel", "decide", "(III)I"⟩, 33) := ⟨⟨by decide +kernel, by decide +kernel⟩, List.mem_of_getElem? (i := 465) (by decide +kernel), List.mem_of_getElem? (i := 611) (by decide +kernel), List.mem_of_getElem? (i := 612) (by decide +kernel)⟩
theorem lw_p9 : lw_okq (⟨"RightsLimitModel", "licenceFor", "(III)I"⟩, 33) := ⟨⟨by decide +kernel, by decide +kernel⟩, List.mem_of_getElem? (i := 465) (by decide +kernel), List.mem_of_getElem? (i := 615) (by decide +kernel), List.mem_of_getElem? (i := 616) (by decide +kernel)⟩
theorem lw_p10 : lw_okq (⟨"RightsLimitModel", "barrier", "(III)I"⟩, 33) := ⟨⟨by decide +kernel, by decide +kernel⟩, List.mem_of_getElem? (i := 465) (by decide +kernel), List.mem_of_getElem? (i := 619) (by decide +kernel), List.mem_of_getElem? (i := 620) (by decide +kernel)⟩
theorem lw_p11 : lw_okq (⟨"RightsLimitModel", "count", "(IIII)I"⟩, 33) := ⟨⟨by decide +kernel, by decide +kernel⟩, List.mem_of_getElem? (i := 465) (by decide +kernel), List.mem_of_getElem? (i := 623) (by decide +kernel), List.mem_of_getElem? (i := 624) (by decide +kernel)⟩
theorem lw_p12 : lw_okq (⟨"RightsLimitModel", "cents", "(I)I"⟩, 33) := ⟨⟨by decide +kernel, by decide +kernel⟩, List.mem_of_getElem? (i := 465) (by decide +kernel), List.mem_of_getElem? (i := 661) (by decide +kernel), List.mem_of_getElem? (i := 662) (by decide +kernel)⟩
def lw_privs_1 : List (MethodName × Nat) := [(⟨"RightsLimit", "goOnTo", "(I)Z"⟩, 8), (⟨"RightsLimit", "decide", "(IIII)V"⟩, 8), (⟨"RightsLimit", "firstLimitReached", "(III)I"⟩, 8), (⟨"RightsLimit", "decideBeyondLimits", "(III)V"⟩, 8), (⟨"RightsLimit", "mayWaive", "(II)Z"⟩, 8), (⟨"java/lang/Throwable", "fillInStackTrace", "(I)Ljava/lang/Throwable;"⟩, 6), (⟨"RightsLimitModel", "isTitle", "(I)Z"⟩, 33), (⟨"RightsLimitModel", "isNow", "(I)Z"⟩, 33), (⟨"RightsLimitModel", "decide", "(III)I"⟩, 33), (⟨"RightsLimitModel", "licenceFor", "(III)I"⟩, 33), (⟨"RightsLimitModel", "barrier", "(III)I"⟩, 33), (⟨"RightsLimitModel", "count", "(IIII)I"⟩, 33), (⟨"RightsLimitModel", "cents", "(I)I"⟩, 33)]
theorem lw_r1 : ∀ q ∈ lw_privs_1, lw_okq q := List.forall_mem_cons.mpr ⟨lw_p0, List.forall_mem_cons.mpr ⟨lw_p1, List.forall_mem_cons.mpr ⟨lw_p2, List.forall_mem_cons.mpr ⟨lw_p3, List.forall_mem_cons.mpr ⟨lw_p4, List.forall_mem_cons.mpr ⟨lw_p5, List.forall_mem_cons.mpr ⟨lw_p6, List.forall_mem_cons.mpr ⟨lw_p7, List.forall_mem_cons.mpr ⟨lw_p8, List.forall_mem_cons.mpr ⟨lw_p9, List.forall_mem_cons.mpr ⟨lw_p10, List.forall_mem_cons.mpr ⟨lw_p11, List.forall_mem_cons.mpr ⟨lw_p12, fun _ h => absurd h List.not_mem_nil⟩⟩⟩⟩⟩⟩⟩⟩⟩⟩⟩⟩⟩
def lw_privs : List (MethodName × Nat) := lw_privs_1
def lw_tbl : List Cond := k2_sels lw_privs ++ tables_1
theorem lw_privs_ok : ∀ q ∈ lw_privs, lw_okq q := lw_r1
end
section
/-! Numbers -/
theorem rl_ile {a b : Int32} (h : a ≤ b) : a.toInt ≤ b.toInt := Int32.le_iff_toInt_le.mp h
theorem rl_ilt {a b : Int32} (h : a < b) : a.toInt < b.toInt := Int32.lt_iff_toInt_lt.mp h
theorem rl_inle {a b : Int32} (h : ¬ a ≤ b) : b.toInt < a.toInt := by
  have h1 : ¬ a.toInt ≤ b.toInt := fun q => h (Int32.le_iff_toInt_le.mpr q)
  omega
theorem rl_inlt {a b : Int32} (h : ¬ a < b) : b.toInt ≤ a.toInt := by
  have h1 : ¬ a.toInt < b.toInt := fun q => h (Int32.lt_iff_toInt_lt.mpr q)
  omega
theorem rl_ieq {a b : Int32} (h : a = b) : a.toInt = b.toInt := by rw [h]
theorem rl_ine {a b : Int32} (h : ¬ a = b) : ¬ a.toInt = b.toInt := fun q => h (Int32.toInt_inj.mp q)
theorem rl_in {x : Int32} {n : Nat} (h0 : 0 ≤ x.toInt) (h1 : x.toInt < n) : vp_in x n := vp_in_iff.mpr ⟨h0, h1⟩
theorem rl_rng (x : Int32) : -2147483648 ≤ x.toInt ∧ x.toInt ≤ 2147483647 := ⟨Int32.le_toInt x, by have := Int32.toInt_lt x; omega⟩
theorem rl_inc {x : Int32} (h : x.toInt < 2147483647) : (x + 1).toInt = x.toInt + 1 := by
  rw [Int32.toInt_add]
  have h1 := rl_rng x
  have h2 : (1 : Int32).toInt = 1 := by decide
  rw [h2, Int.bmod_def]
  omega
theorem rl_dec {x : Int32} (h : -2147483648 < x.toInt) : (x - 1).toInt = x.toInt - 1 := by
  rw [Int32.toInt_sub]
  have h1 := rl_rng x
  have h2 : (1 : Int32).toInt = 1 := by decide
  rw [h2, Int.bmod_def]
  omega
/-! A method's start: the world w, its classes, nest words nw -/
def rl_B (D : va_G) (cl : List vw_C) (tys : List (ClassId × FieldType)) (nw : List Cond) (w : va_W) (sz : Nat) (U : State) : Prop := U.heap.size = sz ∧ va_P D cl w U.heap ∧ va_K D cl tys U ∧ va_D (fun _ => True) w ∧ ∀ x ∈ nw, va_Nw x U
def rl_nest (x : Cond) : Prop := ∃ (a : String) (i : Nat) (y : MethodName) (h : String), x = .methodLinkNest a i y h
theorem rl_B.pre {D : va_G} {cl : List vw_C} {tys : List (ClassId × FieldType)} {nw : List Cond} {w : va_W} {s : State} {H : Heap} {A : Nat → Prop} {av : List Value} (hnw : ∀ x ∈ nw, rl_nest x) (hP : va_P D cl w H) (hK : va_K D cl tys s) (hD : va_D A w) (hN : ∀ x ∈ nw, va_Nw x s) : PreS s H (va_Pc av (rl_B D cl tys nw w H.size)) av := by
  refine ⟨fun a U g mk q => ?_, fun U hU hW => ⟨rfl, by rw [hU], by rw [hU]; exact hP, va_K.moved hW.alike hK, hD.weaken (fun _ _ _ _ => trivial), fun x hx => ?_⟩⟩
  · obtain ⟨q0, q1, qP, qK, qD, qN⟩ := q
    exact ⟨q0, q1, qP, va_K.moved (u := U) (U := U.calling g mk a) (Vm.Alike.refl U.vm) qK, qD, fun x hx => by
      obtain ⟨c1, i1, y1, h1, rfl⟩ := hnw x hx
      exact va_Nw.same (u := U) rfl rfl (qN _ hx)⟩
  · obtain ⟨c1, i1, y1, h1, rfl⟩ := hnw x hx
    exact va_Nw.warmM hW (hN _ hx)
/-! Contracts: an int (or boolean) answered; nothing answered -/
abbrev rl_Ci {S : Type} (l : Launch) (y : MethodName) (ws : List Cond) (rm : Room) (D : va_G) (cl : List vw_C) (tys : List (ClassId × FieldType)) (nw : List Cond) (av : List Value) (w : va_W) (sz : Nat) (post : Int32 → S → Prop) (w' : S → va_W) (mc ms : Nat) : Prop :=
  Met l y ws rm (va_Pc av (rl_B D cl tys nw w sz)) (va_Qi post (fun u t => va_P D cl (w' u) t.heap ∧ va_D (va_A w sz) (w' u)) (va_A w sz)) mc ms (va_A w sz)
abbrev rl_Cv {S : Type} (l : Launch) (y : MethodName) (ws : List Cond) (rm : Room) (D : va_G) (cl : List vw_C) (tys : List (ClassId × FieldType)) (nw : List Cond) (av : List Value) (w : va_W) (sz : Nat) (post : S → Prop) (w' : S → va_W) (mc ms : Nat) : Prop :=
  Met l y ws rm (va_Pc av (rl_B D cl tys nw w sz)) (va_Qv post (fun u t => va_P D cl (w' u) t.heap ∧ va_D (va_A w sz) (w' u)) (va_A w sz)) mc ms (va_A w sz)
/-! A method's entry -/
theorem rl_met {l : Launch} {y : MethodName} {ws ws' : List Cond} {rm : Room} {D : va_G} {cl : List vw_C} {tys : List (ClassId × FieldType)} {nw : List Cond} {av : List Value} {w : va_W} {sz : Nat} {Qc : (Nat → Prop) → Array Value → State → Outcome → State → Prop} {mc ms : Nat} {cc : ByteArray} {maxL : Nat} {ret : Option FieldType}
    (hy : plainName y.cls = true) (hw : ws = Cond.code y cc maxL ret :: ws') (hlen : (lg_sl av).length ≤ maxL)
    (body : ∀ (p : Program) (e : Env) (s : State) (m : MethodId) (below : List Frame) (meth : Method) (c : Code) (A : Nat → Prop) (ls : Array Slot), p.tables.exec = Jvm.exec → c.code = cc → meth.sig.returnType = ret → c.maxLocals = maxL → s.vm.findClass y.cls = some m.cls → (∀ x ∈ ws, x.before av.toArray s = true) → meth.locks = false → meth.name = y.name →
      va_P D cl w s.heap → va_K D cl tys s → va_D A w → va_S A s.heap s.heap [] → (∀ q : Nat, s.heap.size ≤ q → A q) → (∀ x ∈ nw, va_Nw x s) → lv_has ls maxL (lv_args 0 av) →
      W p l e rm s m av.toArray below meth c s.heap [] 0 0 (MQ below (Qc A) av.toArray s mc ms A) (F0 m 0 ls [])) :
    Met l y ws rm (va_Pc av (rl_B D cl tys nw w sz)) (Qc (va_A w sz)) mc ms (va_A w sz) := by
  refine Met.ofW (cc := cc) (maxL := maxL) (ret := ret) hy hw ?_
  intro p e s m args below meth c s₁ B hml hv
  obtain ⟨rfl, hsz, hP, hK, hD0, hN⟩ := hv
  subst hsz
  have hl := lv_entry av (n := maxL) hlen
  rw [lg_entry_eq]
  exact body p e s m below meth c _ _ B.exec B.bytes B.returns hml (findClass_of_methodNamed B.named) (atoms_spec (ws := ws) B.pre) B.notSynchronized (name_of_methodNamed B.named B.method).1 hP hK (hD0.self (sz := s.heap.size)) va_S.rf (fun q h => Or.inr h) hN hl
theorem rl_meti {S : Type} {post : Int32 → S → Prop} {w' : S → va_W} {l : Launch} {y : MethodName} {ws ws' : List Cond} {rm : Room} {D : va_G} {cl : List vw_C} {tys : List (ClassId × FieldType)} {nw : List Cond} {av : List Value} {w : va_W} {sz : Nat} {mc ms : Nat} {cc : ByteArray} {maxL : Nat} {ret : Option FieldType}
    (hy : plainName y.cls = true) (hw : ws = Cond.code y cc maxL ret :: ws') (hlen : (lg_sl av).length ≤ maxL)
    (body : ∀ (p : Program) (e : Env) (s : State) (m : MethodId) (below : List Frame) (meth : Method) (c : Code) (A : Nat → Prop) (ls : Array Slot), p.tables.exec = Jvm.exec → c.code = cc → meth.sig.returnType = ret → c.maxLocals = maxL → s.vm.findClass y.cls = some m.cls → (∀ x ∈ ws, x.before av.toArray s = true) → meth.locks = false → meth.name = y.name →
      va_P D cl w s.heap → va_K D cl tys s → va_D A w → va_S A s.heap s.heap [] → (∀ q : Nat, s.heap.size ≤ q → A q) → (∀ x ∈ nw, va_Nw x s) → lv_has ls maxL (lv_args 0 av) →
      W p l e rm s m av.toArray below meth c s.heap [] 0 0 (MQ below (va_Qi post (fun u t => va_P D cl (w' u) t.heap ∧ va_D A (w' u)) A) av.toArray s mc ms A) (F0 m 0 ls [])) :
    rl_Ci l y ws rm D cl tys nw av w sz post w' mc ms := rl_met (Qc := fun A => va_Qi post (fun u t => va_P D cl (w' u) t.heap ∧ va_D A (w' u)) A) hy hw hlen body
theorem rl_metv {S : Type} {post : S → Prop} {w' : S → va_W} {l : Launch} {y : MethodName} {ws ws' : List Cond} {rm : Room} {D : va_G} {cl : List vw_C} {tys : List (ClassId × FieldType)} {nw : List Cond} {av : List Value} {w : va_W} {sz : Nat} {mc ms : Nat} {cc : ByteArray} {maxL : Nat} {ret : Option FieldType}
    (hy : plainName y.cls = true) (hw : ws = Cond.code y cc maxL ret :: ws') (hlen : (lg_sl av).length ≤ maxL)
    (body : ∀ (p : Program) (e : Env) (s : State) (m : MethodId) (below : List Frame) (meth : Method) (c : Code) (A : Nat → Prop) (ls : Array Slot), p.tables.exec = Jvm.exec → c.code = cc → meth.sig.returnType = ret → c.maxLocals = maxL → s.vm.findClass y.cls = some m.cls → (∀ x ∈ ws, x.before av.toArray s = true) → meth.locks = false → meth.name = y.name →
      va_P D cl w s.heap → va_K D cl tys s → va_D A w → va_S A s.heap s.heap [] → (∀ q : Nat, s.heap.size ≤ q → A q) → (∀ x ∈ nw, va_Nw x s) → lv_has ls maxL (lv_args 0 av) →
      W p l e rm s m av.toArray below meth c s.heap [] 0 0 (MQ below (va_Qv post (fun u t => va_P D cl (w' u) t.heap ∧ va_D A (w' u)) A) av.toArray s mc ms A) (F0 m 0 ls [])) :
    rl_Cv l y ws rm D cl tys nw av w sz post w' mc ms := rl_met (Qc := fun A => va_Qv post (fun u t => va_P D cl (w' u) t.heap ∧ va_D A (w' u)) A) hy hw hlen body
/-! A method that changes nothing -/
def rl_BR (D : va_G) (cl : List vw_C) (tys : List (ClassId × FieldType)) (nw : List Cond) (w : va_W) (H0 : Heap) (U : State) : Prop := U.heap = H0 ∧ va_P D cl w U.heap ∧ va_K D cl tys U ∧ ∀ x ∈ nw, va_Nw x U
theorem rl_BR.pre {D : va_G} {cl : List vw_C} {tys : List (ClassId × FieldType)} {nw : List Cond} {w : va_W} {s : State} {H : Heap} {av : List Value} (hnw : ∀ x ∈ nw, rl_nest x) (hP : va_P D cl w H) (hK : va_K D cl tys s) (hN : ∀ x ∈ nw, va_Nw x s) : PreS s H (va_Pc av (rl_BR D cl tys nw w H)) av := by
  refine ⟨fun a U g mk q => ?_, fun U hU hW => ⟨rfl, hU, by rw [hU]; exact hP, va_K.moved hW.alike hK, fun x hx => ?_⟩⟩
  · obtain ⟨q0, q1, qP, qK, qN⟩ := q
    exact ⟨q0, q1, qP, va_K.moved (u := U) (U := U.calling g mk a) (Vm.Alike.refl U.vm) qK, fun x hx => by
      obtain ⟨c1, i1, y1, h1, rfl⟩ := hnw x hx
      exact va_Nw.same (u := U) rfl rfl (qN _ hx)⟩
  · obtain ⟨c1, i1, y1, h1, rfl⟩ := hnw x hx
    exact va_Nw.warmM hW (hN _ hx)
abbrev rl_Ri (l : Launch) (y : MethodName) (ws : List Cond) (rm : Room) (D : va_G) (cl : List vw_C) (tys : List (ClassId × FieldType)) (nw : List Cond) (av : List Value) (w : va_W) (H0 : Heap) (post : Int32 → Prop) : Prop :=
  Met l y ws rm (va_Pc av (rl_BR D cl tys nw w H0)) (va_Qi (S := Unit) (fun r _ => post r) (fun _ t => t.heap = H0) (fun _ => False)) 0 0 (fun _ => False)
theorem rl_metr {post : Int32 → Prop} {l : Launch} {y : MethodName} {ws ws' : List Cond} {rm : Room} {D : va_G} {cl : List vw_C} {tys : List (ClassId × FieldType)} {nw : List Cond} {av : List Value} {w : va_W} {H0 : Heap} {cc : ByteArray} {maxL : Nat} {ret : Option FieldType}
    (hy : plainName y.cls = true) (hw : ws = Cond.code y cc maxL ret :: ws') (hlen : (lg_sl av).length ≤ maxL)
    (body : ∀ (p : Program) (e : Env) (s : State) (m : MethodId) (below : List Frame) (meth : Method) (c : Code) (ls : Array Slot), p.tables.exec = Jvm.exec → c.code = cc → meth.sig.returnType = ret → c.maxLocals = maxL → s.vm.findClass y.cls = some m.cls → (∀ x ∈ ws, x.before av.toArray s = true) → meth.locks = false →
      va_P D cl w s.heap → va_K D cl tys s → va_S (fun _ => False) s.heap s.heap [] → (∀ x ∈ nw, va_Nw x s) → lv_has ls maxL (lv_args 0 av) →
      W p l e rm s m av.toArray below meth c s.heap [] 0 0 (MQ below (va_Qi (S := Unit) (fun r _ => post r) (fun _ t => t.heap = s.heap) (fun _ => False)) av.toArray s 0 0 (fun _ => False)) (F0 m 0 ls [])) :
    rl_Ri l y ws rm D cl tys nw av w H0 post := by
  refine Met.ofW (cc := cc) (maxL := maxL) (ret := ret) hy hw ?_
  intro p e s m args below meth c s₁ B hml hv
  obtain ⟨rfl, hH, hP, hK, hN⟩ := hv
  subst hH
  have hl := lv_entry av (n := maxL) hlen
  rw [lg_entry_eq]
  exact body p e s m below meth c _ B.exec B.bytes B.returns hml (findClass_of_methodNamed B.named) (atoms_spec (ws := ws) B.pre) B.notSynchronized hP hK va_S.rf hN hl
/-! A world in two parts -/
theorem rl_P.l {D : va_G} {cl : List vw_C} {w1 w2 : va_W} {H : Heap} (h : va_P D cl (w1 ++ w2) H) : va_P D cl w1 H := fun k q hq => h k q (by rw [List.getElem?_append_left (List.getElem?_eq_some_iff.mp hq).1]; exact hq)
theorem rl_P.r {D : va_G} {cl : List vw_C} {w1 w2 : va_W} {H : Heap} (h : va_P D cl (w1 ++ w2) H) : va_P D cl w2 H := fun k q hq => h (w1.length + k) q (by rw [List.getElem?_append_right (by omega)]; simpa using hq)
theorem rl_P.swap {D : va_G} {cl : List vw_C} {w1 w2 : va_W} {H : Heap} (h : va_P D cl (w1 ++ w2) H) : va_P D cl (w2 ++ w1) H := va_P.app (rl_P.r h) (rl_P.l h)
theorem rl_D.l {A : Nat → Prop} {w1 w2 : va_W} (h : va_D A (w1 ++ w2)) : va_D A w1 :=
  ⟨fun i j p q hi hj e => h.1 i j p q (by rw [List.getElem?_append_left (List.getElem?_eq_some_iff.mp hi).1]; exact hi) (by rw [List.getElem?_append_left (List.getElem?_eq_some_iff.mp hj).1]; exact hj) e, fun k q hq => h.2 k q (by rw [List.getElem?_append_left (List.getElem?_eq_some_iff.mp hq).1]; exact hq)⟩
theorem rl_D.r {A : Nat → Prop} {w1 w2 : va_W} (h : va_D A (w1 ++ w2)) : va_D A w2 := by
  have at2 : ∀ (k : Nat) (q : Nat × va_E), w2[k]? = some q → (w1 ++ w2)[w1.length + k]? = some q := fun k q hq => by
    rw [List.getElem?_append_right (by omega)]; simpa using hq
  exact ⟨fun i j p q hi hj e => by have := h.1 _ _ p q (at2 i p hi) (at2 j q hj) e; omega, fun k q hq => h.2 _ q (at2 k q hq)⟩
theorem rl_D.x {A : Nat → Prop} {w1 w2 : va_W} (h : va_D A (w1 ++ w2)) (i j : Nat) (p q : Nat × va_E) (hi : w1[i]? = some p) (hj : w2[j]? = some q) : p.1 ≠ q.1 := fun e => by
  have hl := (List.getElem?_eq_some_iff.mp hi).1
  have := h.1 i (w1.length + j) p q (by rw [List.getElem?_append_left hl]; exact hi) (by rw [List.getElem?_append_right (by omega)]; simpa using hj) e
  omega
theorem rl_D.swap {A : Nat → Prop} {w1 w2 : va_W} (h : va_D A (w1 ++ w2)) : va_D A (w2 ++ w1) := va_D.app (rl_D.r h) (rl_D.l h) (fun i j x y hx hy hxy => rl_D.x h j i y x hy hx hxy.symm)
theorem rl_join {A0 : Nat → Prop} {D : va_G} {cl : List vw_C} {w1 w2 w1' : va_W} {H H1 : Heap} (hP : va_P D cl (w1 ++ w2) H) (hD : va_D A0 (w1 ++ w2)) (hk : ∀ q : Nat, q < H.size → ¬ va_A w1 H.size q → H1[q]? = H[q]?) (hF : ∀ q, va_A w1 H.size q → A0 q) (hP1 : va_P D cl w1' H1) (hD1 : va_D (va_A w1 H.size) w1') :
    va_P D cl (w1' ++ w2) H1 ∧ va_D A0 (w1' ++ w2) := by
  have apart : ∀ (k : Nat) (q : Nat × va_E), w2[k]? = some q → q.1 < H.size ∧ ¬ va_A w1 H.size q.1 := by
    intro k q hq
    have hl := (rl_P.r hP k q hq).lt
    refine ⟨hl, fun h => ?_⟩
    rcases h with ⟨k2, e, h⟩ | h
    · exact rl_D.x hD k2 k (q.1, e) q h hq rfl
    · omega
  refine ⟨va_P.app hP1 (fun k q hq => ((rl_P.r hP) k q hq).kept (hk q.1 (apart k q hq).1 (apart k q hq).2)), va_D.app (hD1.weaken (fun k q _ h => hF q.1 h)) (rl_D.r hD) (fun i j x y hx hy hxy => ?_)⟩
  exact (apart j y hy).2 (by rw [← hxy]; exact hD1.2 i x hx)
theorem rl_free {A0 : Nat → Prop} {w1 w2 : va_W} {H0 H : Heap} {locs : List Loc} (hD : va_D A0 (w1 ++ w2)) (hS : va_S A0 H0 H locs) (hA : ∀ q, H0.size ≤ q → A0 q) : ∀ q, va_A w1 H.size q → A0 q := by
  intro q h
  rcases h with ⟨k, e, h⟩ | h
  · exact (rl_D.l hD).2 k (q, e) h
  · exact hA q (Nat.le_trans hS.1 h)
/-! Calls: the callee's world is the first part w1 of the caller's -/
section RLC
variable {p : Program} {l : Launch} {e : Env} {R : Room} {s : State} {m : MethodId} {args : Array Value} {below : List Frame} {meth : Method} {c : Code} {H H0 : Heap} {locs : List Loc} {cells slots : Nat} {Q : State → Prop}
variable {pc : Nat} {ls : Array Slot} {rest st0 : List Value} {av : List Value} {A0 : Nat → Prop} {mc ms : Nat}
variable {D : va_G} {cl : List vw_C} {w1 w2 : va_W} {S : Type} {w' : S → va_W}
theorem rl_calli {post : Int32 → S → Prop} (hP : va_P D cl (w1 ++ w2) H) (hD : va_D A0 (w1 ++ w2)) (hS : va_S A0 H0 H locs) (hA : ∀ q, H0.size ≤ q → A0 q)
    (hr : va_Run p l e R s m args below meth c H locs cells slots mc ms (F0 m pc ls st0) rest (va_Qi post (fun u t => va_P D cl (w' u) t.heap ∧ va_D (va_A w1 H.size) (w' u)) (va_A w1 H.size) av.toArray) (va_A w1 H.size))
    (kk : ∀ (r : Int32) (u : S) (H1 : Heap) (locs1 : List Loc), post r u → va_P D cl (w' u ++ w2) H1 → va_D A0 (w' u ++ w2) → va_S A0 H0 H1 locs1 → W p l e R s m args below meth c H1 locs1 (cells + mc) (slots + ms) Q (F0 m (pc + 3) ls (.int r :: rest))) : W p l e R s m args below meth c H locs cells slots Q (F0 m pc ls st0) := by
  have hF := rl_free hD hS hA
  refine va_calli hr hS (fun q _ h => hF q h) hF (fun r u t H1 locs1 ht hvm hw hB hz1 hk1 hS1 => ?_)
  rw [ht] at hB
  obtain ⟨hP2, hD2⟩ := rl_join hP hD hk1 hF hB.1 hB.2
  exact kk r u H1 locs1 hw hP2 hD2 hS1
theorem rl_callv {post : S → Prop} (hP : va_P D cl (w1 ++ w2) H) (hD : va_D A0 (w1 ++ w2)) (hS : va_S A0 H0 H locs) (hA : ∀ q, H0.size ≤ q → A0 q)
    (hr : va_Run p l e R s m args below meth c H locs cells slots mc ms (F0 m pc ls st0) rest (va_Qv post (fun u t => va_P D cl (w' u) t.heap ∧ va_D (va_A w1 H.size) (w' u)) (va_A w1 H.size) av.toArray) (va_A w1 H.size))
    (kk : ∀ (u : S) (H1 : Heap) (locs1 : List Loc), post u → va_P D cl (w' u ++ w2) H1 → va_D A0 (w' u ++ w2) → va_S A0 H0 H1 locs1 → W p l e R s m args below meth c H1 locs1 (cells + mc) (slots + ms) Q (F0 m (pc + 3) ls rest)) : W p l e R s m args below meth c H locs cells slots Q (F0 m pc ls st0) := by
  have hF := rl_free hD hS hA
  refine va_callv hr hS (fun q _ h => hF q h) hF (fun u t H1 locs1 ht hvm hw hB hz1 hk1 hS1 => ?_)
  rw [ht] at hB
  obtain ⟨hP2, hD2⟩ := rl_join hP hD hk1 hF hB.1 hB.2
  exact kk u H1 locs1 hw hP2 hD2 hS1
end RLC
section RLC0
variable {p : Program} {l : Launch} {e : Env} {R : Room} {s : State} {m : MethodId} {args : Array Value} {below : List Frame} {meth : Method} {c : Code} {H H0 : Heap} {locs : List Loc} {cells slots : Nat} {Q : State → Prop}
variable {pc : Nat} {ls : Array Slot} {rest st0 : List Value} {av : List Value} {A0 : Nat → Prop}
variable {D : va_G} {cl : List vw_C} {w1 : va_W} {S : Type} {w' : S → va_W}
theorem rl_calli0 {post : Int32 → S → Prop} (hP : va_P D cl w1 H) (hD : va_D A0 w1) (hS : va_S A0 H0 H locs) (hA : ∀ q, H0.size ≤ q → A0 q)
    (hr : va_Run p l e R s m args below meth c H locs cells slots 0 0 (F0 m pc ls st0) rest (va_Qi post (fun u t => va_P D cl (w' u) t.heap ∧ va_D (va_A w1 H.size) (w' u)) (va_A w1 H.size) av.toArray) (va_A w1 H.size))
    (kk : ∀ (r : Int32) (u : S) (H1 : Heap) (locs1 : List Loc), post r u → va_P D cl (w' u) H1 → va_D A0 (w' u) → va_S A0 H0 H1 locs1 → W p l e R s m args below meth c H1 locs1 cells slots Q (F0 m (pc + 3) ls (.int r :: rest))) : W p l e R s m args below meth c H locs cells slots Q (F0 m pc ls st0) :=
  rl_calli (w2 := []) (by rw [List.append_nil]; exact hP) (by rw [List.append_nil]; exact hD) hS hA hr (fun r u H1 locs1 h1 h2 h3 h4 => kk r u H1 locs1 h1 (by rw [List.append_nil] at h2; exact h2) (by rw [List.append_nil] at h3; exact h3) h4)
theorem rl_callv0 {post : S → Prop} (hP : va_P D cl w1 H) (hD : va_D A0 w1) (hS : va_S A0 H0 H locs) (hA : ∀ q, H0.size ≤ q → A0 q)
    (hr : va_Run p l e R s m args below meth c H locs cells slots 0 0 (F0 m pc ls st0) rest (va_Qv post (fun u t => va_P D cl (w' u) t.heap ∧ va_D (va_A w1 H.size) (w' u)) (va_A w1 H.size) av.toArray) (va_A w1 H.size))
    (kk : ∀ (u : S) (H1 : Heap) (locs1 : List Loc), post u → va_P D cl (w' u) H1 → va_D A0 (w' u) → va_S A0 H0 H1 locs1 → W p l e R s m args below meth c H1 locs1 cells slots Q (F0 m (pc + 3) ls rest)) : W p l e R s m args below meth c H locs cells slots Q (F0 m pc ls st0) :=
  rl_callv (w2 := []) (by rw [List.append_nil]; exact hP) (by rw [List.append_nil]; exact hD) hS hA hr (fun u H1 locs1 h1 h2 h3 h4 => kk u H1 locs1 h1 (by rw [List.append_nil] at h2; exact h2) (by rw [List.append_nil] at h3; exact h3) h4)
/-- a call that changes nothing -/
theorem rl_callr {post : Int32 → Prop} (hS : va_S A0 H0 H locs)
    (hr : va_Run p l e R s m args below meth c H locs cells slots 0 0 (F0 m pc ls st0) rest (va_Qi (S := Unit) (fun r _ => post r) (fun _ t => t.heap = H) (fun _ => False) av.toArray) (fun _ => False))
    (kk : ∀ (r : Int32) (locs1 : List Loc), post r → va_S A0 H0 H locs1 → W p l e R s m args below meth c H locs1 cells slots Q (F0 m (pc + 3) ls (.int r :: rest))) : W p l e R s m args below meth c H locs cells slots Q (F0 m pc ls st0) := by
  refine va_calli hr hS (fun q _ h => h.elim) (fun q h => h.elim) (fun r u t H1 locs1 ht hvm hw hB hz1 hk1 hS1 => ?_)
  have e9 : H1 = H := ht.symm.trans hB
  rw [e9] at hS1 ⊢
  exact kk r locs1 hw hS1
end RLC0
theorem rl_P0 {D : va_G} {cl : List vw_C} {H : Heap} : va_P D cl [] H := fun k q h => by simp at h
theorem rl_D0 {A : Nat → Prop} : va_D A [] := ⟨fun i j p q h => by simp at h, fun k q h => by simp at h⟩
/-! Array classes -/
theorem rl_arr {s : State} {args : Array Value} {ty : FieldType} (hp : ∀ C, ty ≠ .object C) (h : (Cond.arrayClass ty).before args s = true) : ∃ cA : ClassId, ArrOfT s cA ty ∧ va_RA s cA ty := by
  obtain ⟨cA, kA, comp, h1, h2, h3⟩ := Cond.arrayClass_spec h
  refine ⟨cA, fun n z => ⟨fun k h => (by cases h), kA, h2, comp, h3⟩, ?_⟩
  cases ty <;> first | exact h1 | exact absurd rfl (hp _)
theorem rl_one {s : State} {D : va_G} {cl : List vw_C} {tys : List (ClassId × FieldType)} {k j : Nat} {cA cB : ClassId} {ty : FieldType} (hp : ∀ C, ty ≠ .object C) (hK : va_K D cl tys s) (h1 : tys[k]? = some (cA, ty)) (h2 : tys[j]? = some (cB, ty)) : cA = cB := by
  have a1 := (hK.2 k _ h1).2
  have a2 := (hK.2 j _ h2).2
  cases ty <;> first | exact Option.some.inj (a1.symm.trans a2) | exact absurd rfl (hp _)
section RLN
variable {p : Program} {l : Launch} {e : Env} {R : Room} {s : State} {m : MethodId} {args : Array Value} {below : List Frame} {meth : Method} {c : Code} {H : Heap} {locs : List Loc} {cells slots : Nat} {Q : State → Prop}
variable {cc : ByteArray} {pc : Nat} {ls : Array Slot} {rest : List Value} {D : va_G} {cl : List vw_C} {A : Nat → Prop} {tys : List (ClassId × FieldType)} {ws : va_W} {H0 : Heap}
/-- a new array, of the kind that the world knows -/
theorem rl_newa (hexec : p.tables.exec = Jvm.exec) (hb : c.code = cc) {atype : ArrayType} (harr : (Cond.arrayClass (newarray.typeOf atype)).before args s = true) {ty : FieldType} (hty : newarray.typeOf atype = ty) (hp : ∀ C, ty ≠ .object C) (t0 : Nat) {cK : ClassId} (ht : tys[t0]? = some (cK, ty)) (hK : va_K D cl tys s) (hP : va_P D cl ws H) (hD : va_D A ws) (hS : va_S A H0 H locs) (hA : ∀ q, H0.size ≤ q → A q)
    {n : Int32} {N' : Nat} {a0 : vp_A} (ha : ∀ cA : ClassId, vp_cell cA a0 = arrV cA N' (fun _ => defaultValue ty)) (hn : ¬ n < 0) (hN : n.toNatClampNeg = N') (hbytes : N' * componentBytes ty ≤ 536870912) (hcells : cells + 1 ≤ R.cells) (hslots : slots + N' ≤ R.slots) (hdg : decode cc pc = .ok (.newarray atype, 2))
    (kk : ∀ (q : Nat) (H1 : Heap), va_P D cl (ws ++ [(q, .inl (cK, a0))]) H1 → va_D A (ws ++ [(q, .inl (cK, a0))]) → va_S A H0 H1 locs →
      W p l e R s m args below meth c H1 locs (cells + 1) (slots + N') Q (F0 m (pc + 2) ls (.ref q :: rest))) : W p l e R s m args below meth c H locs cells slots Q (F0 m pc ls (.int n :: rest)) := by
  refine va_newa hexec hb harr hty hK hP hD hS hA ha hn hN hbytes hcells hslots hdg (fun q cA H1 hK1 hP1 hD1 hS1 => ?_)
  have hc : cA = cK := rl_one hp hK1 (k := tys.length) (j := t0) (by simp) (by rw [List.getElem?_append_left (List.getElem?_eq_some_iff.mp ht).1]; exact ht)
  subst hc
  exact kk q H1 hP1 hD1 hS1
end RLN
/-! A heap that has grown, its old cells as they were -/
theorem rl_P.grow {D : va_G} {cl : List vw_C} {w : va_W} {H H1 : Heap} (hold : ∀ (q : Nat) (cell : Cell), H[q]? = some cell → H1[q]? = some cell) (hP : va_P D cl w H) : va_P D cl w H1 := fun k q hq => (hP k q hq).kept (by
  have hl := (hP k q hq).lt
  rw [Array.getElem?_eq_getElem hl]
  exact hold _ _ (Array.getElem?_eq_getElem hl))
theorem rl_S.grow {A : Nat → Prop} {H0 H H1 : Heap} {locs : List Loc} (hold : ∀ (q : Nat) (cell : Cell), H[q]? = some cell → H1[q]? = some cell) (hsz : H.size ≤ H1.size) (hS : va_S A H0 H locs) : va_S A H0 H1 locs :=
  ⟨Nat.le_trans hS.1 hsz, fun q h1 h2 => by
    have h3 := hS.2.1 q h1 h2
    rw [Array.getElem?_eq_getElem h1] at h3 ⊢
    exact hold _ _ h3, hS.2.2⟩
theorem rl_addk {x k : Int32} {n : Int} (hk : k.toInt = n) (h1 : -2147483648 ≤ x.toInt + n) (h2 : x.toInt + n < 2147483648) : (x + k).toInt = x.toInt + n := by
  rw [Int32.toInt_add, hk, Int.bmod_def]
  omega
theorem rl_subk {x k : Int32} {n : Int} (hk : k.toInt = n) (h1 : -2147483648 ≤ x.toInt - n) (h2 : x.toInt - n < 2147483648) : (x - k).toInt = x.toInt - n := by
  rw [Int32.toInt_sub, hk, Int.bmod_def]
  omega
end
section
/-! NoSuchElementException(String), no traces kept: the constructor's chain, then athrow -/
def rl_NSE : String := "java/util/NoSuchElementException"
def rl_RTE : String := "java/lang/RuntimeException"
def rl_EXC : String := "java/lang/Exception"
def rl_nse : ByteArray := ⟨#[0x2a, 0x2b, 0xb7, 0x00, 0x0d, 0xb1]⟩
def rl_atoms (own : String) (ic : Nat) : List Cond :=
  Bundle.throwableAtoms ++ Bundle.throwableSAtoms ++ (Bundle.passSAtoms rl_NSE rl_RTE 13 rl_nse ++ Bundle.chainSAtoms rl_RTE [rl_EXC]) ++
  [.methodLink own ic (Bundle.initS rl_NSE), .instantiable rl_NSE 6, .selects rl_NSE Bundle.tFill0 Bundle.tFill0, .selects rl_NSE Bundle.tFill Bundle.tFill,
   .lays rl_NSE Bundle.tN "cause" "Ljava/lang/Throwable;", .lays rl_NSE Bundle.tN "stackTrace" Bundle.steD, .lays rl_NSE Bundle.tN "suppressedExceptions" Bundle.listD, .lays rl_NSE Bundle.tN "detailMessage" "Ljava/lang/String;",
   .isRef (.static Bundle.tN "UNASSIGNED_STACK" Bundle.steD), .isRef (.static Bundle.tN "SUPPRESSED_SENTINEL" Bundle.listD),
   .fieldLink Bundle.tN 198 Bundle.tN "backtrace" "Ljava/lang/Object;", .lays Bundle.tN Bundle.tN "backtrace" "Ljava/lang/Object;", .lays rl_NSE Bundle.tN "backtrace" "Ljava/lang/Object;"]
section RLX
variable {p : Program} {l : Launch} {e : Env} {R : Room} {s : State} {m : MethodId} {args : Array Value} {below : List Frame} {meth : Method} {c : Code} {V : State} {cells slots : Nat}
set_option maxHeartbeats 4000000 in
theorem rl_ctorThrow (X : Stand p l e R s m args below meth c V [] cells slots) (hexec : p.tables.exec = Jvm.exec) (htr : e.platform.stackTraces = false) {own : String} {ic : Nat} (hown : s.vm.findClass own = some m.cls)
    (h : ∀ a ∈ rl_atoms own ic, a.before args s = true) {a : Addr} {cX : ClassId} {kX : Class} (hfX : s.vm.findClass rl_NSE = some cX) (hkX : s.vm.classes[cX]? = some kX) (hcell : V.heap[a]? = some (freshCell cX kX)) (hnew : s.heap.size ≤ a) {msg : Value} (hmsg : msg.isRef = true)
    {g : JFrame} (hg : g.method = m) (hsize : g.locals.size = c.maxLocals) (hlocked : g.locked = none) (hentered : g.entered = []) {rest : List Value} (hstack : g.stack = msg :: .ref a :: .ref a :: rest)
    (hd6 : decode c.code g.pc = .ok (.invokespecial ic, 3)) (hd9 : decode c.code (g.pc + 3) = .ok (.athrow, 1)) (hout : ∀ x ∈ c.exceptionTable.toList, covers x (g.pc + 3) = false)
    (hRf : 5 < R.frames) (hRl : 2 * g.monitorRoom + ((Value.ref a :: rest).map fun v => v.category).sum + 81 ≤ R.locals) (hlocks : meth.locks = false) :
    ∃ U : State, Steps p.tables e below (V.setTop g) U ∧ U.status = .running ∧ Ended U below (.threw a) ∧ s.WarmedH U.vm ∧ s.sameButNew ({ U with vm := s.vm } : State) [] cells slots ∧ ∃ ce, U.heap[a]? = some ce ∧ ce.vm = .none ∧ ce.cls = cX := by
  have howns : e.platform.frameOwnsMonitors = true := by rw [X.admits.platform]
  have hfin : e.platform.finalization = false := by rw [X.admits.platform]
  have hpl : e.platform.magicAccessors = ({} : Platform).magicAccessors := by rw [X.admits.platform]
  have a' : ∀ x, x ∈ rl_atoms own ic → x.holds args s none s [] = true := fun x hx => h x hx
  obtain ⟨T, Z0, L, -, Y⟩ := ThrowableC.of_atoms (args := args) howns hfin hpl (fun x hx => h x (by simp [rl_atoms, hx]))
  obtain ⟨Z, M, LZ, LM, hnZ⟩ := Init0T.ofS_atoms (args := args) hpl L Y (fun x hx => h x (by simp [rl_atoms, hx]))
  obtain ⟨P1, L1, hP1m, hs1⟩ := PassC.ofS_atoms (args := args) (s := s) hpl (X := rl_NSE) (Y := rl_RTE) (index := 13) (bytes := rl_nse) (by decide) (by decide) (by decide +kernel) (by decide +kernel) (by decide +kernel) (by decide +kernel) (fun x hx => h x (by simp [rl_atoms, hx]))
  obtain ⟨P2, Ps, hlen, L2, hL, hm2, hlink2, hlink⟩ := Bundle.chainS (args := args) hpl hnZ [rl_EXC] rl_RTE (by decide) (by decide) (fun x hx => h x (by simp [rl_atoms, hx]))
  have hlink1 : P1.sup = firstOf (Z.m T.toThrowableT) ((P2 :: Ps).map (·.toPassT)) := Option.some.inj (hs1.symm.trans hm2)
  have hfound : s.vm.findClass rl_NSE = some P1.m.cls := findClass_of_methodNamed hP1m
  cases Option.some.inj (hfX.symm.trans hfound)
  obtain ⟨c1, kX', hc1, hk, hord, -, -, hn6⟩ := Cond.instantiable_spec (a' (.instantiable rl_NSE 6) (by simp [rl_atoms]))
  cases Option.some.inj (hc1.symm.trans hfound)
  cases Option.some.inj (hkX.symm.trans hk)
  have hsel0 : selectMethod e.platform s.vm P1.m.cls T.fill0 = .method T.fill0 := by
    obtain ⟨c2, r2, m2, q1, q2, q3, q4, -⟩ := Cond.selects_spec (a' (.selects rl_NSE Bundle.tFill0 Bundle.tFill0) (by simp [rl_atoms]))
    cases Option.some.inj (q1.symm.trans hfound)
    cases Option.some.inj (q2.symm.trans (State.methodFound?_of_named Y.fill0 (by decide)))
    cases Option.some.inj (q3.symm.trans Y.fill0)
    rw [Launch.admits_selectMethod X.admits]; exact q4
  have hselF : selectMethod e.platform s.vm P1.m.cls T.fill = .method T.fill := by
    obtain ⟨c2, r2, m2, q1, q2, q3, q4, -⟩ := Cond.selects_spec (a' (.selects rl_NSE Bundle.tFill Bundle.tFill) (by simp [rl_atoms]))
    cases Option.some.inj (q1.symm.trans hfound)
    cases Option.some.inj (q2.symm.trans (State.methodFound?_of_named Y.fill (by decide)))
    cases Option.some.inj (q3.symm.trans Y.fill)
    rw [Launch.admits_selectMethod X.admits]; exact q4
  obtain ⟨cellS0, hcS0, hiss⟩ := Y.statics
  obtain ⟨u0, hu0⟩ := Cond.staticRefV Y.unassigned L.unassignedStatic L.statics hcS0 hiss (a' (.isRef (.static Bundle.tN "UNASSIGNED_STACK" Bundle.steD)) (by simp [rl_atoms]))
  obtain ⟨sen, hsen⟩ := Cond.staticRefV Y.sentinel L.sentinelStatic L.statics hcS0 hiss (a' (.isRef (.static Bundle.tN "SUPPRESSED_SENTINEL" Bundle.listD)) (by simp [rl_atoms]))
  obtain ⟨ci198, i198, fB, hk198, hg198, ha198, hsB, -, hnB, htB, hffB⟩ := Cond.ownField (t := .object "java/lang/Object") Y.found L.cls (by decide +kernel) (a' (.fieldLink Bundle.tN 198 Bundle.tN "backtrace" "Ljava/lang/Object;") (by simp [rl_atoms])) (a' (.lays Bundle.tN Bundle.tN "backtrace" "Ljava/lang/Object;") (by simp [rl_atoms])) e.platform hpl
  obtain ⟨cellS, hcS', heS, -, hkeep⟩ := X.same.2.2.2.2.2 T.aS cellS0 hcS0
  have hcellS : V.heap[T.aS]? = some cellS := hcS'
  have hknownS : cellS.vm ≠ .unknown := by
    rw [heS]; intro hu
    rw [show cellS0.vm = .unknown from hu] at hiss
    cases hiss
  have hneS : T.aS ≠ a := Nat.ne_of_lt (Nat.lt_of_lt_of_le (Array.getElem?_eq_some_iff.mp hcS0).1 hnew)
  obtain ⟨iM, hffM⟩ := Y.msg
  obtain ⟨tyC, dC, hdC, hdnC⟩ := Cond.laysAt hfound hk Y.cause (a' (.lays rl_NSE Bundle.tN "cause" "Ljava/lang/Throwable;") (by simp [rl_atoms]))
  obtain ⟨tyS, dS, hdS, hdnS⟩ := Cond.laysAt hfound hk Y.stack (a' (.lays rl_NSE Bundle.tN "stackTrace" Bundle.steD) (by simp [rl_atoms]))
  obtain ⟨tyP, dP, hdP, hdnP⟩ := Cond.laysAt hfound hk Y.supp (a' (.lays rl_NSE Bundle.tN "suppressedExceptions" Bundle.listD) (by simp [rl_atoms]))
  obtain ⟨tyM, dM, hdM, hdnM⟩ := Cond.laysAt hfound hk hffM (a' (.lays rl_NSE Bundle.tN "detailMessage" "Ljava/lang/String;") (by simp [rl_atoms]))
  obtain ⟨tyB, dB, hdB, hdnB⟩ := Cond.laysAt hfound hk hffB (a' (.lays rl_NSE Bundle.tN "backtrace" "Ljava/lang/Object;") (by simp [rl_atoms]))
  have bC := Cond.laysApart hdB hdC hdnB hdnC (by rw [hnB, Y.causeName]; decide)
  have bS := Cond.laysApart hdB hdS hdnB hdnS (by rw [hnB, Y.stackName]; decide)
  have bP := Cond.laysApart hdB hdP hdnB hdnP (by rw [hnB, Y.suppName]; decide)
  have hskip : SkipFacts T e.platform s (fun u => u) u0 ((preparedCellV T.toThrowableT (freshCell P1.m.cls kX) a u0 sen).withEntry V.cur) :=
    ⟨{ ci198 := ci198, i198 := i198, fBack := fB }, ⟨hk198, hg198, ha198, hsB⟩, by
      have h9 := fresh_default (c := P1.m.cls) tyB
      rw [htB] at h9
      simpa [preparedCellV, Cell.setSlot, Cell.withEntry, Array.getElem?_setIfInBounds, bC, bS, bP, bC.symm, bS.symm, bP.symm, defaultValue] using h9, fun _ _ => rfl⟩
  obtain ⟨tm, methC, cdC, kC, vm₁, hnC, -, -, -, -, -, -, -, hW₁, st1⟩ := Steps.initColdS (tb := p.tables) (e := e) (below := below) (s := s) (U := V) X.here hexec X.warmed hpl hown (t := Bundle.initS rl_NSE) rfl rfl (by decide)
    (a' (.methodLink own ic (Bundle.initS rl_NSE)) (by simp [rl_atoms])) (h (.instanceMethod (Bundle.initS rl_NSE)) (by simp [rl_atoms, Bundle.passSAtoms])) (bytes := rl_nse) (maxL := 2) (h (.code (Bundle.initS rl_NSE) rl_nse 2 none) (by simp [rl_atoms, Bundle.passSAtoms]))
    (f := g) hg (a := a) (msg := msg) (rest := .ref a :: rest) hstack hd6
  cases Option.some.inj (hnC.symm.trans hP1m)
  have X₁ := X.noted hW₁
  obtain ⟨vm₂, X₂, st2⟩ := X₁.ctorMessageOffV hexec (g := { g with stack := .ref a :: rest }) hg hsize T L Z LZ M LM (P1 :: P2 :: Ps)
    (fun P hP => by
      rcases List.mem_cons.mp hP with rfl | hP
      · exact L1
      · rcases List.mem_cons.mp hP with rfl | hP
        · exact L2
        · exact hL P hP) ⟨hlink1, hlink2, hlink⟩ (u0 := u0) (sen := sen) (self := a) hmsg (cell := freshCell P1.m.cls kX) (cellS := cellS)
    hcell (fun _ => by simp) (by simp) rfl rfl hsel0 hselF hcellS hneS hknownS (by rw [hkeep _ (by simp)]; exact hu0) (by rw [hkeep _ (by simp)]; exact hsen)
    (Takes.of_laid hk hord tyC (by rw [Y.causeType]; rfl)) (Takes.of_laid hk hord tyS (by rw [Y.stackType]; exact fits_refV_array _ u0)) (Takes.of_laid hk hord tyP (by rw [Y.suppType]; exact fits_refV_object _ sen))
    (Takes.of_laid hk hord tyM (by rw [Y.msgType]; exact fits_refV_object _ ⟨msg, hmsg⟩)) Y.objLocals hskip htr [] hd6
    (by simp only [List.length_cons, List.length_nil] at hlen ⊢; omega) (by simp only [List.length_cons, List.length_nil] at hlen ⊢; rw [hlen]; exact hRl)
  obtain ⟨hwalk, hrun, hended, hWU, hsame⟩ := X₂.athrowLeaves hexec (g := { g with stack := .ref a :: rest, pc := g.pc + 3 }) hg hlocked hentered hout (a := a) (rest := rest) rfl hd9 hlocks
  have hlt : a < ((V.setVm vm₁).setVm vm₂).heap.size := (Array.getElem?_eq_some_iff.mp hcell).1
  have hU := heapAt_setCell_self (s := (V.setVm vm₁).setVm vm₂) (plainBareV T.toThrowableT (freshCell P1.m.cls kX) a u0 sen msg) hlt
  refine ⟨_, st1 _ (fun acts => ?_), hrun, hended, hWU, hsame.weaken (fun y hy hlt' => ?_) (Nat.le_refl _) (Nat.le_refl _), _, hU, rfl, rfl⟩
  · rw [doInvoke_state]
    exact st2 _ hwalk
  · rcases List.mem_append.mp hy with h1 | h1
    · exact h1
    · exfalso
      have hb : y.base = a := by
        simp only [List.mem_cons, List.not_mem_nil, or_false] at h1
        rcases h1 with rfl | rfl | rfl | rfl | rfl <;> rfl
      rw [hb] at hlt'
      exact Nat.not_lt.mpr hnew hlt'
end RLX
/-! A throw that leaves a method, and its catching by the caller -/
/-- the words of a throw that speak of the heap: where two statics of Throwable lie and that they hold references -/
def rl_Zw : List Cond := [.isRef (.static Bundle.tN "UNASSIGNED_STACK" Bundle.steD), .isRef (.static Bundle.tN "SUPPRESSED_SENTINEL" Bundle.listD), .laysStatic Bundle.tN "UNASSIGNED_STACK" Bundle.steD, .laysStatic Bundle.tN "SUPPRESSED_SENTINEL" Bundle.listD]
/-- the texts; what else is no good word -/
def rl_Zs : List (Nat × String) := [(133, "no such request"), (168, "a request has nothing such"), (190, "no such copy")]
def rl_Zd : List Cond := [.declares (Bundle.initS rl_RTE), .declares (Bundle.initS rl_EXC), .declares (Bundle.initS Bundle.tN)]
def rl_Z (U : State) : Prop := (∀ w ∈ rl_Zw, ∀ a : Array Value, w.before a U = true) ∧ (∀ (k : Nat) (tx : String), (k, tx) ∈ rl_Zs → ∃ b, vk_R "RightsLimit" k tx b U) ∧ ∀ w ∈ rl_Zd, va_Nw w U
/-- one static, its cell old -/
theorem rl_Z1 {C n d : String} {s U : State} {a a' : Array Value} (hvm : s.vm.Alike U.vm) (hh : ∀ (q : Nat) (cell : Cell), s.heap[q]? = some cell → U.heap[q]? = some cell) (hl : (Cond.laysStatic C n d).before a s = true) (hr : (Cond.isRef (.static C n d)).before a s = true) :
    (Cond.laysStatic C n d).before a' U = true ∧ (Cond.isRef (.static C n d)).before a' U = true := by
  obtain ⟨c, k, i, f, x, cell, h1, h2, h3, h4, h5, h6, h7, h8, h9⟩ := Cond.laysStatic_spec hl
  obtain ⟨k', hi', he⟩ := State.fieldFound?_setVm hvm h2
  have h5' : U.heap[x]? = some cell := hh _ _ h5
  have h1' : U.vm.findClass C = some c := by rw [hvm.findClass]; exact h1
  have h4' : k'.statics = some x := by rw [he]; exact h4
  have h9' : k'.staticTypes[f.slot]? = some f.type := by rw [he]; exact h9
  have hi2 : U.fieldFound? C n d = some (c, k', i, f) := hi'
  obtain ⟨v, hv⟩ : ∃ v, cell.slots[f.slot]? = some v := ⟨_, Array.getElem?_eq_getElem h8⟩
  have e0 : (Term.static C n d).eval a s none [] s = some v := by
    simp [Term.eval, State.fieldNamed?, h2, h3, h4, h5, h6, h7, hv]
  have e1 : (Term.static C n d).eval a' U none [] U = some v := by
    simp [Term.eval, State.fieldNamed?, hi2, h3, h4', h5', h6, h7, hv]
  refine ⟨Cond.laysStatic_of h1' hi2 h3 h4' h5' h6 h7 h8 h9', ?_⟩
  simp only [Cond.before, Cond.holds, Cond.value, e0] at hr
  simp only [Cond.before, Cond.holds, Cond.value, e1]
  exact hr
theorem rl_Zw.moved {s U : State} (hvm : s.vm.Alike U.vm) (hh : ∀ (q : Nat) (cell : Cell), s.heap[q]? = some cell → U.heap[q]? = some cell) (h : ∀ w ∈ rl_Zw, ∀ a : Array Value, w.before a s = true) : ∀ w ∈ rl_Zw, ∀ a : Array Value, w.before a U = true := by
  intro w hw a
  have q1 := rl_Z1 (C := Bundle.tN) (n := "UNASSIGNED_STACK") (d := Bundle.steD) (a := a) (a' := a) hvm hh (h _ (by simp [rl_Zw]) a) (h _ (by simp [rl_Zw]) a)
  have q2 := rl_Z1 (C := Bundle.tN) (n := "SUPPRESSED_SENTINEL") (d := Bundle.listD) (a := a) (a' := a) hvm hh (h _ (by simp [rl_Zw]) a) (h _ (by simp [rl_Zw]) a)
  simp only [rl_Zw, List.mem_cons, List.not_mem_nil, or_false] at hw
  rcases hw with rfl | rfl | rfl | rfl
  · exact q1.2
  · exact q2.2
  · exact q1.1
  · exact q2.1
theorem rl_Z.warm {s U : State} (hW : s.WarmedH U.vm) (hh : ∀ (q : Nat) (cell : Cell), s.heap[q]? = some cell → U.heap[q]? = some cell) (h : rl_Z s) : rl_Z U := by
  refine ⟨rl_Zw.moved hW.alike hh h.1, fun k tx hk => ?_, fun w hw => ?_⟩
  · obtain ⟨b, hb⟩ := h.2.1 k tx hk
    exact ⟨b, vk_R.warm hW hb⟩
  · have h9 := h.2.2 w hw
    simp only [rl_Zd, List.mem_cons, List.not_mem_nil, or_false] at hw
    rcases hw with rfl | rfl | rfl <;> exact va_Nw.warmD hW h9
theorem rl_Z.calling {U : State} {g : JFrame} {mk : MethodId} {a : Array Value} (h : rl_Z U) : rl_Z (U.calling g mk a) := by
  refine ⟨rl_Zw.moved (s := U) (Vm.Alike.refl U.vm) (fun _ _ h => h) h.1, fun k tx hk => ?_, fun w hw => ?_⟩
  · obtain ⟨b, hb⟩ := h.2.1 k tx hk
    exact ⟨b, vk_R.same (u := U) rfl hb⟩
  · have h9 := h.2.2 w hw
    simp only [rl_Zd, List.mem_cons, List.not_mem_nil, or_false] at hw
    rcases hw with rfl | rfl | rfl <;> exact va_Nw.same (u := U) rfl rfl h9
theorem rl_str {s : State} {args : Array Value} {k : Nat} {tx : String} (hZ : rl_Z s) (h : (k, tx) ∈ rl_Zs) : (Cond.stringRef "RightsLimit" k tx).before args s = true := by
  obtain ⟨b, hb⟩ := hZ.2.1 k tx h
  first | exact va_tabs rfl rfl hb.1 | exact hb.1
/-- what a method that answers an int or throws E leaves -/
def rl_Tq (E : String) (post : Int32 → Prop) (mc ms : Nat) : Array Value → State → Outcome → State → Prop := fun _ st o t =>
  st.WarmedH t.vm ∧ st.sameButNew ({ t with vm := st.vm } : State) [] mc ms ∧
  ((∃ r : Int32, o = .returned (some (.int r)) ∧ post r) ∨ ∃ (q : Addr) (ce : Cell), o = .threw q ∧ t.heap[q]? = some ce ∧ ce.vm = .none ∧ st.vm.findClass E = some ce.cls)
def rl_Mt (l : Launch) (y : MethodName) (ws : List Cond) (rm : Room) (Pc : Array Value → State → Prop) (E : String) (post : Int32 → Prop) (mc ms : Nat) : Prop :=
  MetFree l y (headSpec ws rm) Pc (fun _ _ _ _ _ => True) (rl_Tq E post mc ms)
def rl_TZ (below : List Frame) (E : String) (post : Int32 → Prop) (a : Array Value) (s : State) (mc ms : Nat) : State → Prop := fun t =>
  ∃ o, t.status = .running ∧ Ended t below o ∧ rl_Tq E post mc ms a s o t
theorem rl_nil {H0 H : Heap} {locs : List Loc} (h : va_S (fun _ => False) H0 H locs) : locs = [] := by
  cases locs with
  | nil => rfl
  | cons q t => exact (h.2.2 q List.mem_cons_self).elim
def rl_BT (D : va_G) (cl : List vw_C) (tys : List (ClassId × FieldType)) (nw : List Cond) (w : va_W) (H0 : Heap) (U : State) : Prop := rl_BR D cl tys nw w H0 U ∧ rl_Z U
theorem rl_BT.pre {D : va_G} {cl : List vw_C} {tys : List (ClassId × FieldType)} {nw : List Cond} {w : va_W} {s : State} {H : Heap} {av : List Value} (hnw : ∀ x ∈ nw, rl_nest x) (hP : va_P D cl w H) (hK : va_K D cl tys s) (hN : ∀ x ∈ nw, va_Nw x s) (hZ : ∀ U : State, U.heap = H → s.WarmedH U.vm → rl_Z U) : PreS s H (va_Pc av (rl_BT D cl tys nw w H)) av := by
  have h := rl_BR.pre (av := av) hnw hP hK hN
  refine ⟨fun a U g mk q => ?_, fun U hU hW => ⟨rfl, (h.2 U hU hW).2, hZ U hU hW⟩⟩
  obtain ⟨q0, q1, q2⟩ := q
  exact ⟨q0, (h.1 a U g mk ⟨q0, q1⟩).2, rl_Z.calling q2⟩
section RLT
variable {p : Program} {l : Launch} {e : Env} {R : Room} {s : State} {m : MethodId} {args : Array Value} {below : List Frame} {meth : Method} {c : Code} {H : Heap} {locs : List Loc} {cells slots : Nat} {Q : State → Prop}
variable {cc : ByteArray} {pc : Nat} {ls : Array Slot} {E : String} {post : Int32 → Prop} {mc ms : Nat}
/-- the road that returns -/
theorem rl_tret {g : JFrame} (k : W p l e R s m args below meth c s.heap locs 0 0 (MQ below (va_Qi (S := Unit) (fun r _ => post r) (fun _ t => t.heap = s.heap) (fun _ => False)) args s 0 0 (fun _ => False)) g) : W p l e R s m args below meth c s.heap locs 0 0 (rl_TZ below E post args s mc ms) g := by
  intro T hT X
  obtain ⟨t, a1, o, b1, b2, ⟨⟨r, u, hr, hp, -⟩, -⟩, L, ⟨-, hW, hs⟩, hL⟩ := k T hT X
  have e0 : L = [] := by
    cases L with
    | nil => rfl
    | cons q t => exact (hL q List.mem_cons_self).elim
  subst e0
  exact ⟨t, a1, o, b1, b2, hW, hs.mono (Nat.zero_le _) (Nat.zero_le _), Or.inl ⟨r, hr, hp⟩⟩
/-- 'throw new NoSuchElementException("text")': new; dup; ldc; invokespecial; athrow -/
theorem rl_throw (hexec : p.tables.exec = Jvm.exec) (hb : c.code = cc) (hl : l.stackTraces = false) {own text : String} {ik is ic : Nat}
    (hown : s.vm.findClass own = some m.cls) (hk : (Cond.classLink own ik rl_NSE).before args s = true) (hini : (Cond.initialized rl_NSE).before args s = true) (hstr : (Cond.stringRef own is text).before args s = true) (h : ∀ w ∈ rl_atoms own ic, w.before args s = true)
    (hS : va_S (fun _ => False) s.heap s.heap locs) (hsize : ls.size = c.maxLocals)
    (d0 : decode cc pc = .ok (.new ik, 3)) (d3 : decode cc (pc + 3) = .ok (.dup, 1)) (d4 : decode cc (pc + 4) = .ok (.ldc is, 2)) (d6 : decode cc (pc + 6) = .ok (.invokespecial ic, 3)) (d9 : decode cc (pc + 9) = .ok (.athrow, 1))
    (hout : ∀ x ∈ c.exceptionTable.toList, False) (hRf : 5 < R.frames) (hRl : 82 ≤ R.locals) (hRc : 1 ≤ R.cells) (hRs : 6 ≤ R.slots) (hlocks : meth.locks = false) :
    W p l e R s m args below meth c s.heap locs 0 0 (rl_TZ below rl_NSE post args s 1 6) (F0 m pc ls []) := by
  intro T hT X
  have e0 := rl_nil hS
  subst e0
  have htr : e.platform.stackTraces = false := (show e.platform.stackTraces = l.stackTraces by rw [X.admits.platform]).trans hl
  have hins : (Cond.instantiable rl_NSE 6).before args s = true := h _ (by simp [rl_atoms])
  obtain ⟨k0, cf, i0, sa, hk0, hcf0, hcp0, hq0, hr0, hsa⟩ := Cond.stringRef_spec hown hstr
  obtain ⟨vm₁, cX, kX, hfX, hkX, -, -, X₁, st1⟩ := X.newCold hexec (own := own) (C := rl_NSE) (index := ik) (n := 6) hown hk hins hini (g := F0 m pc ls []) rfl (by rw [hb]; exact d0) (by omega) (by omega)
  generalize hT1 : (T.setVm vm₁).pushCell { cls := cX, slots := kX.instanceTypes.map defaultValue, vm := .none } = T1 at X₁ st1
  have hcell : T1.heap[T.heap.size]? = some (freshCell cX kX) := by rw [← hT1]; exact State.heap_pushCell_size _ _
  have d3' : decode c.code (pc + 3) = .ok (.dup, 1) := by rw [hb]; exact d3
  have d4' : decode c.code (pc + 4) = .ok (.ldc is, 2) := by rw [hb]; exact d4
  obtain ⟨U, hsteps, hrun, hend, hW, hsame, ce, hce, hcv, hcc⟩ := rl_ctorThrow X₁ hexec htr (own := own) (ic := ic) hown h hfX hkX hcell (by rw [hT]; exact Nat.le_refl _) (msg := .ref sa) rfl
    (g := { method := m, pc := pc + 6, locals := ls, stack := .ref sa :: .ref T.heap.size :: .ref T.heap.size :: [], locked := none }) rfl hsize rfl rfl (rest := []) rfl
    (by rw [hb]; exact d6) (by rw [hb]; exact d9) (fun x hx => (hout x hx).elim) hRf (by show 2 * 0 + (1 + 0) + 81 ≤ R.locals; omega) hlocks
  refine ⟨U, ?_, .threw T.heap.size, hrun, hend, hW, hsame.mono (by omega) (by omega), Or.inr ⟨T.heap.size, ce, rfl, hce, hcv, by rw [hcc]; exact hfX⟩⟩
  refine st1 _ ?_
  show Steps p.tables e below (T1.setTop { method := m, pc := pc + 3, locals := ls, stack := .ref T.heap.size :: [], locked := none }) _
  jvm_step X₁.here [X₁.here.top, hexec, d3', Value.category]
  exact X₁.ldcString hexec (own := own) (text := text) (index := is) (a := sa) hown hstr hsa
    (g := { method := m, pc := pc + 4, locals := ls, stack := .ref T.heap.size :: .ref T.heap.size :: [], locked := none }) rfl d4' _ hsteps
end RLT
/-- the entry of a method that answers an int or throws -/
theorem rl_mett {E : String} {post : Int32 → Prop} {mc ms : Nat} {l : Launch} {y : MethodName} {ws ws' : List Cond} {rm : Room} {D : va_G} {cl : List vw_C} {tys : List (ClassId × FieldType)} {nw : List Cond} {av : List Value} {w : va_W} {H0 : Heap} {cc : ByteArray} {maxL : Nat} {ret : Option FieldType}
    (hy : plainName y.cls = true) (hw : ws = Cond.code y cc maxL ret :: ws') (hlen : (lg_sl av).length ≤ maxL)
    (body : ∀ (p : Program) (e : Env) (s : State) (m : MethodId) (below : List Frame) (meth : Method) (c : Code) (ls : Array Slot), p.tables.exec = Jvm.exec → c.code = cc → meth.sig.returnType = ret → c.maxLocals = maxL → s.vm.findClass y.cls = some m.cls → (∀ x ∈ ws, x.before av.toArray s = true) → meth.locks = false →
      va_P D cl w s.heap → va_K D cl tys s → va_S (fun _ => False) s.heap s.heap [] → (∀ x ∈ nw, va_Nw x s) → rl_Z s → (∀ x ∈ c.exceptionTable.toList, False) → lv_has ls maxL (lv_args 0 av) →
      W p l e rm s m av.toArray below meth c s.heap [] 0 0 (rl_TZ below E post av.toArray s mc ms) (F0 m 0 ls [])) :
    rl_Mt l y ws rm (va_Pc av (rl_BT D cl tys nw w H0)) E post mc ms := by
  refine MetFree.of_bodyS (code := cc) (maxLocals := maxL) (ret := ret) hy ?_ ?_
  · intro args s m h hn
    obtain ⟨meth, c, h1, h2, h3, h4, h5, h6, -, -⟩ := Cond.code_spec hn (atoms_spec (ws := ws) h _ (by rw [hw]; exact List.mem_cons_self))
    exact ⟨meth, c, h1, h2, h3, h4, h5, h6⟩
  · intro p e s m args below meth c s₁ B hml hP _
    obtain ⟨rfl, ⟨hH, hP, hK, hN⟩, hZ⟩ := hP
    subst hH
    have hh0 : s₁.heap = s.heap := by rw [B.state]; rfl
    have ht : ∀ x ∈ c.exceptionTable.toList, False := by
      obtain ⟨meth9, c9, h1, h2, -, -, -, -, h7, -⟩ := Cond.code_spec B.named (atoms_spec (ws := ws) B.pre _ (by rw [hw]; exact List.mem_cons_self))
      cases Option.some.inj (h1.symm.trans B.method)
      cases Option.some.inj (h2.symm.trans (Stand.of_body B).code)
      intro x hx
      rw [Array.isEmpty_iff.mp h7] at hx
      cases hx
    have hl := lv_entry av (n := maxL) hlen
    have K := body p e s m below meth c _ B.exec B.bytes B.returns hml (findClass_of_methodNamed B.named) (atoms_spec (ws := ws) B.pre) B.notSynchronized hP hK va_S.rf hN hZ ht hl
    rw [← lg_entry_eq] at K
    obtain ⟨t, a1, o, b1, b2, b3⟩ := K s₁ hh0 (Stand.of_body B)
    exact ⟨t, o, a1, b1, b2, b3⟩
end
section
/-! The caller of a method that answers an int or throws: its one handler takes it -/
section RLK
variable {p : Program} {l : Launch} {e : Env} {R : Room} {s : State} {m : MethodId} {args : Array Value} {below : List Frame} {meth : Method} {c : Code} {T : State} {H : Heap} {locs : List Loc} {cells slots : Nat} {Q : State → Prop}
variable {cc bytes : ByteArray} {pc nL maxL index n mc ms : Nat} {ls : Array Slot} {st0 rest As : List Value} {E own C : String} {post : Int32 → Prop} {Ts ws : List Cond} {y : MethodName} {ret : Option FieldType} {rm : Room} {Pc : Array Value → State → Prop} {b : Addr}
theorem rl_caught (X : Stand p l e R s m args below meth c T locs cells slots) (a : Addr) (hown : s.vm.findClass own = some m.cls) {x : ExceptionTableEntry} (htab : c.exceptionTable.toList = [x]) (hx : covers x pc = true) (h0 : x.catchType ≠ 0)
    (hlink : (Cond.classLink own x.catchType E).before args s = true) (hcast : (Cond.castable E E).before args s = true) {cell : Cell} (hcell : T.heap[a]? = some cell) (hv : cell.vm = .none) (hcl : s.vm.findClass E = some cell.cls) :
    ∃ vm', Stand p l e R s m args below meth c (T.setVm vm') locs cells slots ∧ ∀ tg, Steps p.tables e below ((T.setVm vm').setTop (F0 m x.handlerPc ls [.ref a])) tg → Steps p.tables e below ((T.setTop (F0 m pc ls rest)).pushFrame (.throwing a)) tg := by
  have hpl : e.platform.magicAccessors = ({} : Platform).magicAccessors := by rw [X.admits.platform]
  obtain ⟨c3, cT, hc3, hcT, hasg⟩ := Cond.castable_spec hcast
  cases hcl.symm.trans hc3
  obtain ⟨c', hc', hln⟩ := Cond.classLink_spec hown hlink e.platform hpl
  cases hcT.symm.trans hc'
  obtain ⟨dk, _, _, kt, hd, _, _, _, _, hkt, _, hopn⟩ := hln.here
  have hln₀ := X.warmed.classLinks hln
  have hW' : s.WarmedH (T.vm.noted m.cls x.catchType (.cls cT)) := X.warmed.noted hd hopn (State.rightAt_cls hln)
  have hal := X.warmed.alike
  obtain ⟨kt', hkt', -⟩ := hal.2.2 _ _ hkt
  have hfit : T.vm.assignable cell.cls cT = true := by rw [hal.assignable]; exact hasg
  obtain ⟨k1, hk1⟩ := Vm.classAt_of_assignable hfit ⟨kt', hkt'⟩
  have hobj : ∀ k, cell.vm ≠ .statics k := fun k h => by rw [hv] at h; cases h
  refine ⟨_, X.noted hW', fun tg hrest => ?_⟩
  have hfind : ∀ (Q : Handler → Pre) (E : CtlPost) (d : Bool) (acts : List Action), wp (findHandler (F0 m pc ls rest) a) Q E e d acts ((T.setTop (F0 m pc ls rest)).pushFrame (.throwing a)) ↔ Q (.found x.handlerPc) d acts (((T.setTop (F0 m pc ls rest)).pushFrame (.throwing a)).setVm (T.vm.noted m.cls x.catchType (.cls cT))) := by
    intro Q E d acts
    rw [Jvm.W.findHandler_eq (s := (T.setTop (F0 m pc ls rest)).pushFrame (.throwing a)) (f := F0 m pc ls rest) (meth := meth) (code := c) X.method' X.code, htab]
    have hx' := hx
    simp only [covers] at hx'
    obtain ⟨ha, ht⟩ := (resolveClass_links (vm := T.vm) e.toSetting hln₀).op (op := VmOp.resolveClass m.cls x.catchType) rfl
    have hal2 : T.vm.Alike (T.vm.noted m.cls x.catchType (.cls cT)) := (Vm.Alike.refl T.vm).noted _ _ _
    obtain ⟨k1', hk1', -⟩ := hal2.2.2 _ _ hk1
    obtain ⟨k2', hk2', -⟩ := hal2.2.2 _ _ hkt'
    have hfit' : (T.vm.noted m.cls x.catchType (.cls cT)).assignable cell.cls cT = true := by rw [hal2.assignable]; exact hfit
    have hvm : ((T.setTop (F0 m pc ls rest)).pushFrame (.throwing a)).vm = T.vm := rfl
    have hhp : ((T.setTop (F0 m pc ls rest)).pushFrame (.throwing a)).heap[a]? = some cell := hcell
    simp [findHandler.go, hx', h0, ha, ht, hvm, hhp, hobj, hk1', hk2', hfit', VmOp.dirties, VmOp.acts]
  have hstep : ∀ r : List Frame, (stepThrowing e ((T.setTop (F0 m pc ls rest)).pushFrame (.throwing a)) a (.java (F0 m pc ls rest) :: r)).Is ((((T.setTop (F0 m pc ls rest)).pushFrame (.throwing a)).setVm (T.vm.noted m.cls x.catchType (.cls cT))).setFrames (.java (F0 m x.handlerPc ls [.ref a]) :: r)) [] := by
    intro r
    simp only [stepThrowing, searchFrame, vmDo]
    generalize hr : Sem.go _ e false [] _ = res
    obtain ⟨as, rfl, ha⟩ := Sem.eq_ok_of hr (a := Handler.found x.handlerPc) (s' := ((T.setTop (F0 m pc ls rest)).pushFrame (.throwing a)).setVm (T.vm.noted m.cls x.catchType (.cls cT))) (acts' := []) (by simp [hfind _ _ _ _])
    exact ⟨rfl, ha⟩
  obtain ⟨hgo, hw⟩ := At.throwing (g := F0 m pc ls rest) X.here a
  refine Steps.head hgo hw ?_
  rw [stepThread_throwing (frames_entered X.here.top _), (hstep _).1]
  obtain ⟨g₀, hr⟩ := X.frames_eq
  have hr' : (T.setVm (T.vm.noted m.cls x.catchType (.cls cT))).frames = .java g₀ :: below := hr
  rw [State.setTop_of_frames _ hr'] at hrest
  have e1 : ∀ (u : State) (vm' : Vm) (F G : List Frame), ((u.setFrames F).setVm vm').setFrames G = (u.setVm vm').setFrames G := fun u vm' F G => by
    have h1 : (u.setFrames F).setVm vm' = (u.setVm vm').setFrames F := rfl
    rw [h1, State.setFrames_setFrames]
  rw [hr, List.tail_cons, State.pushFrame, e1, State.setTop_of_frames _ hr, e1]
  exact hrest
/-- the call: it answers, or it is caught -/
theorem rl_callt (S : CallFix p m c cc nL s args Ts own) (hM : rl_Mt l y ws rm Pc E post mc ms) (cw : CallW R s args own C index y bytes maxL ret ws rm mc ms n) (hp : PreV s H C b Pc As)
    (hn : As.length = n) (hsize : ls.size = nL) (hstack : st0 = As.reverse ++ .ref b :: rest) (hW : 2 * (F0 m pc ls st0).monitorRoom + (rest.map fun v => v.category).sum ≤ 8) (hdg : decode cc pc = .ok (.invokevirtual index, 3)) (hf : cells + mc ≤ R.cells ∧ slots + ms ≤ R.slots)
    {x : ExceptionTableEntry} (htab : c.exceptionTable.toList = [x]) (hx : covers x pc = true) (h0 : x.catchType ≠ 0) (hlink : (Cond.classLink own x.catchType E).before args s = true) (hcast : (Cond.castable E E).before args s = true)
    (kr : ∀ (r : Int32) (H1 : Heap), post r → (∀ (q : Nat) (cell : Cell), H[q]? = some cell → H1[q]? = some cell) → H.size ≤ H1.size → W p l e R s m args below meth c H1 locs (cells + mc) (slots + ms) Q (F0 m (pc + 3) ls (.int r :: rest)))
    (kx : ∀ (q : Addr) (H1 : Heap), (∀ (q : Nat) (cell : Cell), H[q]? = some cell → H1[q]? = some cell) → H.size ≤ H1.size → W p l e R s m args below meth c H1 locs (cells + mc) (slots + ms) Q (F0 m x.handlerPc ls [.ref q])) :
    W p l e R s m args below meth c H locs cells slots Q (F0 m pc ls st0) := by
  intro T hT X
  obtain ⟨⟨hrc, hrs, hfr, hlo, hws, hcw, hcode, hini, hy, hlen, hlk⟩, hin, hse⟩ := cw
  obtain ⟨hexec, hb, hml, hown, -⟩ := S
  obtain ⟨hbl, ⟨cellB, hcB, hoB, hclB⟩, hPc⟩ := hp
  obtain ⟨mk, methM, hnamed, hmethM, hstM, habM⟩ := Cond.instanceMethod_spec hin
  obtain ⟨methM', cM, hmethM', -, -, -, -, -, -, hsigM⟩ := Cond.code_spec hnamed hcode
  cases hmethM.symm.trans hmethM'
  obtain ⟨c2, r2, m2, q1, q2, q3, q4, kP, hkP, hkPi⟩ := Cond.selects_spec hse
  cases hclB.symm.trans q1
  cases (State.methodFound?_of_named hnamed hy).symm.trans q2
  cases hnamed.symm.trans q3
  have hselP : selectMethod e.platform s.vm cellB.cls mk = .method mk := by rw [Launch.admits_selectMethod X.admits]; exact q4
  have hdg' : decode c.code pc = .ok (.invokevirtual index, 3) := by rw [hb]; exact hdg
  obtain ⟨vm₁, X₁, hstep₁⟩ := X.invokevirtual hexec hown hlk hnamed hmethM hstM hkP hkPi hy (a := b) (cell := cellB) (by rw [hT]; exact hcB)
    (fun z h => by rw [h] at hoB; cases hoB) hselP hmethM habM hkP hkPi (g := F0 m pc ls st0) rfl (argsL := As) (rest := rest) (hn.trans (hlen _ hsigM)) hstack hdg'
  have hnm1 := X₁.named hnamed
  have h1 : (headSpec ws rm).pre.before (Value.ref b :: As).toArray (T.setVm vm₁) = true := atoms_intro fun w hw => hws w hw _ _ X₁.warmed
  have h2 : (Cond.code y bytes maxL ret).before (Value.ref b :: As).toArray (T.setVm vm₁) = true := hws _ hcw _ _ X₁.warmed
  have h3 : (Cond.initialized y.cls).before (Value.ref b :: As).toArray (T.setVm vm₁) = true := word_at X₁.warmed (Or.inl (by first | rfl | simp [Cond.onTables, Cond.keeps, Cond.steady])) hini
  have hPc1 : Pc (Value.ref b :: As).toArray ((T.setVm vm₁).calling (F0 m pc ls rest) mk (Value.ref b :: As).toArray) := hbl _ _ _ _ (hPc (T.setVm vm₁) hT X₁.warmed)
  obtain ⟨methY, cY, hmY, hcY, -, hlY, -, -, -, -⟩ := Cond.code_spec hnm1 h2
  obtain ⟨kY, hkY, -⟩ := className_of_methodNamed hnm1
  have hinitY : kY.init = .initialized := Cond.initialized_spec (findClass_of_methodNamed hnm1) hkY h3
  have hat : At (T.setVm vm₁) (F0 m pc ls rest).method c below := X₁.here
  have happ : (headSpec ws rm).appliesLoose y e.platform ((T.setVm vm₁).calling (F0 m pc ls rest) mk (Value.ref b :: As).toArray) = true :=
    Spec.appliesLoose_calling (g := F0 m pc ls rest) hat hdg' hnm1 hkY hinitY
      (X₁.room_calling (g := F0 m pc ls rest) (R' := (headSpec ws rm).room) (hsize.trans hml.symm) hmY hcY hfr (by
        rw [hlY]
        have e9 : (headSpec ws rm).room.locals = rm.locals := rfl
        have e8 : (F0 m pc ls rest).monitorRoom = (F0 m pc ls st0).monitorRoom := rfl
        rw [e9, e8]
        show 2 * (F0 m pc ls st0).monitorRoom + (rest.map fun v => v.category).sum + (maxL + 11) + rm.locals ≤ R.locals
        omega) (by rw [show (headSpec ws rm).room.cells = mc from hrc]; exact hf.1) (by rw [show (headSpec ws rm).room.slots = ms from hrs]; exact hf.2)) h1
  obtain ⟨g₀, hr⟩ := X₁.frames_eq
  have hfrm : ((T.setVm vm₁).setTop (F0 m pc ls rest)).frames = [.java (F0 m pc ls rest)] ++ below := by rw [State.frames_setTop' _ hat.top, X₁.tail]; rfl
  obtain ⟨o, s₂, hsteps, -, hend, hWm, hsm, hq⟩ := Steps.callFree hM p X₁.admits X₁.cas X₁.clock (acts := []) hfrm happ hPc1 trivial
  rw [State.frames_setTop' _ hat.top, X₁.tail] at hend
  have hWm' : (T.setVm vm₁).WarmedH s₂.vm := hWm
  have hsm' : ((T.setVm vm₁).calling (F0 m pc ls rest) mk (Value.ref b :: As).toArray).sameButNew ({ s₂ with vm := ((T.setVm vm₁).calling (F0 m pc ls rest) mk (Value.ref b :: As).toArray).vm } : State) [] mc ms := hsm
  obtain ⟨e2, z2, z3, z4, z5, z6⟩ := id hsm'
  have e3 : s₂ = ({ ((T.setVm vm₁).calling (F0 m pc ls rest) mk (Value.ref b :: As).toArray).setFrames s₂.frames with heap := s₂.heap, slotsUsed := s₂.slotsUsed } : State).setVm s₂.vm := by
    have e4 : s₂ = ({ s₂ with vm := ((T.setVm vm₁).calling (F0 m pc ls rest) mk (Value.ref b :: As).toArray).vm } : State).setVm s₂.vm := rfl
    rw [e2] at e4
    exact e4
  have hr' : (({ T.setVm vm₁ with heap := s₂.heap, slotsUsed := s₂.slotsUsed } : State).setVm s₂.vm).frames = .java g₀ :: below := hr
  have hsame : (T.setVm vm₁).sameButNew ({ T.setVm vm₁ with heap := s₂.heap, slotsUsed := s₂.slotsUsed } : State) [] mc ms := by
    refine ⟨?_, z2, z3, z4, z5, z6⟩
    obtain ⟨t, ht, -⟩ := State.frames_cons hr
    show ({ T.setVm vm₁ with heap := s₂.heap, slotsUsed := s₂.slotsUsed } : State) = { (T.setVm vm₁).setFrames (T.setVm vm₁).frames with heap := s₂.heap, slotsUsed := s₂.slotsUsed }
    rw [State.setFrames_self ht]
  have XX := X₁.same.trans (hsame.setVm s.vm)
  rw [List.append_nil] at XX
  have X' : Stand p l e R s m args below meth c (({ T.setVm vm₁ with heap := s₂.heap, slotsUsed := s₂.slotsUsed } : State).setVm s₂.vm) locs (cells + mc) (slots + ms) :=
    ⟨X₁.admits, X₁.cas, X₁.clock, X₁.frames, X₁.room, X₁.hears, X₁.method, X₁.code, (X₁.here.setHeapUsed s₂.heap s₂.slotsUsed).setVm hWm'.alike, X₁.tail, State.WarmedH.trans X₁.warmed hWm', X₁.limits, X₁.bytes, XX⟩
  have hold : ∀ (q : Nat) (cell : Cell), H[q]? = some cell → s₂.heap[q]? = some cell := fun q cell hq => hsm.old_cell (a := q) (c := cell) (by show T.heap[q]? = some cell; rw [hT]; exact hq)
  have hsz : H.size ≤ s₂.heap.size := by
    have h9 : T.heap.size ≤ s₂.heap.size := z2
    rw [hT] at h9
    exact h9
  rcases hq with ⟨r, rfl, hpost⟩ | ⟨q, ce, rfl, hce, hcv, hcl⟩
  · obtain ⟨c₂, i₂, len₂, hc₂, hd₂, hf₂⟩ := hend
    have hcc : c₂ = c := by
      have h5 : s₂.code? m = (T.setVm vm₁).code? m := by rw [State.code?_eq, State.code?_eq, hWm'.alike.method?]
      exact Option.some.inj (hc₂.symm.trans (h5.trans hat.code))
    subst hcc
    have hlen3 : len₂ = 3 := by rw [hdg'] at hd₂; cases hd₂; rfl
    subst hlen3
    have hs₂ : s₂ = (({ T.setVm vm₁ with heap := s₂.heap, slotsUsed := s₂.slotsUsed } : State).setVm s₂.vm).setTop (F0 m (pc + 3) ls (.int r :: rest)) := by
      refine e3.trans ?_
      rw [hf₂, State.calling_eq hat.top, State.setFrames_setFrames, State.setTop_of_frames _ hr']
      rfl
    obtain ⟨t, a1, b1⟩ := kr r s₂.heap hpost hold hsz (({ T.setVm vm₁ with heap := s₂.heap, slotsUsed := s₂.slotsUsed } : State).setVm s₂.vm) rfl X'
    refine ⟨t, hstep₁ _ fun acts => ?_, b1⟩
    rw [doInvoke_state]
    rw [hs₂] at hsteps
    exact hsteps.trans a1
  · have hf₂ : s₂.frames = .throwing q :: .java (F0 m pc ls rest) :: below := hend
    have hs₂ : s₂ = ((({ T.setVm vm₁ with heap := s₂.heap, slotsUsed := s₂.slotsUsed } : State).setVm s₂.vm).setTop (F0 m pc ls rest)).pushFrame (.throwing q) := by
      refine e3.trans ?_
      rw [hf₂, State.calling_eq hat.top, State.setFrames_setFrames, State.pushFrame, State.frames_setTop _ hr', State.setTop_of_frames _ hr', State.setFrames_setFrames]
      rfl
    have hclE : s.vm.findClass E = some ce.cls := by
      have h6 : (T.setVm vm₁).vm.findClass E = some ce.cls := hcl
      rw [X₁.warmed.alike.findClass] at h6
      exact h6
    obtain ⟨vm', X'', hst⟩ := rl_caught (pc := pc) (ls := ls) (rest := rest) X' q hown htab hx h0 hlink hcast (cell := ce) hce hcv hclE
    obtain ⟨t, a1, b1⟩ := kx q s₂.heap hold hsz ((({ T.setVm vm₁ with heap := s₂.heap, slotsUsed := s₂.slotsUsed } : State).setVm s₂.vm).setVm vm') rfl X''
    refine ⟨t, hstep₁ _ fun acts => ?_, b1⟩
    rw [doInvoke_state]
    rw [hs₂] at hsteps
    exact hsteps.trans (hst _ a1)
end RLK
section RLH
variable {p : Program} {l : Launch} {e : Env} {R : Room} {s : State} {m : MethodId} {args : Array Value} {below : List Frame} {meth : Method} {c : Code} {T : State} {H : Heap} {locs : List Loc} {cells slots : Nat}
variable {y : MethodName} {bytes cc : ByteArray} {maxL nL mc ms n index : Nat} {ret : Option FieldType} {hh : List (Nat × Nat × Nat × Nat)} {ws ws' : List Cond} {rm : Room} {Pc : Array Value → State → Prop} {Qc : Array Value → State → Outcome → State → Prop} {free : Addr → Prop} {Ts : List Cond} {own : String} {As rest : List Value} {g : JFrame}
/-- a static method of one's own that has a handler: its words, and its call -/
theorem rl_runH (S : CallFix p m c cc nL s args Ts own) (hM : Met l y ws rm Pc Qc mc ms free) (hT : GoodIn Ts (wsS own index y ws)) (hw : ws = Cond.codeWith y bytes maxL ret hh :: ws') (hrc : rm.cells = mc) (hrs : rm.slots = ms)
    (hd : y.cls = own ∧ y.cls ≠ "java/lang/invoke/MethodHandle" ∧ y.cls ≠ "java/lang/invoke/VarHandle" ∧ (parseMethodDescriptor y.desc).map (fun d => d.parameters.length) = some n) (hR : rm.frames + 1 ≤ R.frames ∧ 8 + (maxL + 11) + rm.locals ≤ R.locals) (hp : PreS s H Pc As)
    (hg : g.method = m) (hn : As.length = n) (hsize : g.locals.size = nL) (hstack : g.stack = As.reverse ++ rest) (hW : 2 * g.monitorRoom + (rest.map fun v => v.category).sum ≤ 8) (hdg : decode cc g.pc = .ok (.invokestatic index, 3)) (hf : cells + mc ≤ R.cells ∧ slots + ms ≤ R.slots) :
    va_Run p l e R s m args below meth c H locs cells slots mc ms g rest (Qc As.toArray) free := by
  obtain ⟨hx, hb, hml, hown, hts⟩ := S
  obtain ⟨hC, hy1, hy2, hd⟩ := hd
  have ok : ∀ w ∈ wsS own index y ws, w.before args s = true := fun w h => hts w (hT w h).1
  have hG : GoodIn Ts ws := fun w h => hT w (by unfold wsS; exact List.mem_append_right _ h)
  have hc : Cond.codeWith y bytes maxL ret hh ∈ ws := by rw [hw]; exact List.mem_cons_self
  have hcode : (Cond.codeWith y bytes maxL ret hh).before args s = true := hts _ (hG _ hc).1
  have hini : (Cond.initialized y.cls).before args s = true := by rw [hC]; exact ok _ (by simp [wsS])
  have hlink : (Cond.methodLink own index y).before args s = true := ok _ (by simp [wsS])
  have hstt : (Cond.static y).before args s = true := ok _ (by simp [wsS])
  have hK : Back l R p e below s args y 3 8 (PreOf R mc ms Pc) (PostOf Qc mc ms free) := va_backW (hh := hh) (bytes := bytes) (maxL := maxL) (ret := ret) hM hp.1 hrc hrs hR.1 hR.2 (pay_in hts hG) hc (fun a' U hW => word_at hW (Or.inl (by first | rfl | simp [Cond.onTables, Cond.keeps, Cond.steady])) hini)
  intro T hT X
  obtain ⟨mk, methM, cM, hnamed, hmethM, -, -, -, -, -, -, hsigM⟩ := Cond.codeWith_spec hcode
  have hstatic : methM.isStatic = true := Cond.static_spec hnamed hmethM hstt
  obtain ⟨kP, hkP, -⟩ := className_of_methodNamed hnamed
  have hinitP : kP.init = .initialized := Cond.initialized_spec (findClass_of_methodNamed hnamed) hkP hini
  have hlen : As.length = methM.sig.parameters.length := by
    rw [hsigM] at hd
    exact hn.trans (Option.some.inj hd).symm
  have hdg' : decode c.code g.pc = .ok (.invokestatic index, 3) := by rw [hb]; exact hdg
  obtain ⟨vm₁, X₁, hstep₁⟩ := X.invokestatic hx hown hlink hnamed hmethM hstatic hkP hinitP ⟨hy1, hy2⟩ (g := g) hg (argsL := As) (rest := rest) hlen hstack hdg'
  obtain ⟨v, ⟨U', l2, c2, s2⟩, X', ⟨g', mk', t, L, e1, e2, hq, h1, hL, h2, h3⟩, hsteps⟩ := hK m meth c ⟨T.setVm vm₁, locs, cells, slots⟩ { g with stack := rest } (.invokestatic index) mk As.toArray X₁ hg (hsize.trans hml.symm) hdg' hW (X₁.named hnamed) ⟨hf.1, hf.2, hp.2 (T.setVm vm₁) hT X₁.warmed⟩
  dsimp only [Pt.U, Pt.locs, Pt.cells, Pt.slots] at X' e1 e2 h1 h2 h3 hsteps
  subst h1; subst h2; subst h3
  exact ⟨v, (T.setVm vm₁).calling g' mk' As.toArray, t, U', L, hT, X', hL, e1, e2, hq, fun target h => hstep₁ _ fun acts => by rw [doInvoke_state]; exact hsteps.trans h⟩
end RLH
end
section
def rl_G : List Cond := lw_tbl.filter goodWord
theorem rl_G_in {w : Cond} (h : w ∈ rl_G) : w ∈ lw_tbl := (List.mem_filter.mp h).1
theorem rl_wd {w : Cond} (i : Nat) (h : lw_tbl[i]? = some w) (g : goodWord w = true) : w ∈ rl_G := List.mem_filter.mpr ⟨List.mem_of_getElem? h, g⟩
theorem rl_good {w : Cond} (h : w ∈ rl_G) : (w.onTables && w.keeps) = true ∨ ∃ ty, w = .arrayClass ty := good_of_word (List.mem_filter.mp h).2
theorem rl_gV {own C : String} {idx maxL : Nat} {y : MethodName} {cc : ByteArray} {ret : Option FieldType} (h1 : Cond.methodLink own idx y ∈ rl_G) (h2 : Cond.instanceMethod y ∈ rl_G) (h3 : Cond.selects C y y ∈ rl_G) (h4 : Cond.initialized C ∈ rl_G) (h5 : Cond.code y cc maxL ret ∈ rl_G) : GoodIn rl_G (wsV own idx C y (Cond.code y cc maxL ret :: rl_G)) := by
  intro w hw
  simp only [wsV, List.cons_append, List.nil_append, List.mem_cons] at hw
  rcases hw with rfl | rfl | rfl | rfl | rfl | h
  · exact ⟨h1, rl_good h1⟩
  · exact ⟨h2, rl_good h2⟩
  · exact ⟨h3, rl_good h3⟩
  · exact ⟨h4, rl_good h4⟩
  · exact ⟨h5, rl_good h5⟩
  · exact ⟨h, rl_good h⟩
theorem rl_gS {own : String} {idx maxL : Nat} {y : MethodName} {cc : ByteArray} {ret : Option FieldType} (h1 : Cond.methodLink own idx y ∈ rl_G) (h2 : Cond.static y ∈ rl_G) (h4 : Cond.initialized own ∈ rl_G) (h5 : Cond.code y cc maxL ret ∈ rl_G) : GoodIn rl_G (wsS own idx y (Cond.code y cc maxL ret :: rl_G)) := by
  intro w hw
  simp only [wsS, List.cons_append, List.nil_append, List.mem_cons] at hw
  rcases hw with rfl | rfl | rfl | rfl | h
  · exact ⟨h1, rl_good h1⟩
  · exact ⟨h2, rl_good h2⟩
  · exact ⟨h4, rl_good h4⟩
  · exact ⟨h5, rl_good h5⟩
  · exact ⟨h, rl_good h⟩
theorem rl_gH {own : String} {idx maxL : Nat} {y : MethodName} {cc : ByteArray} {ret : Option FieldType} {hh : List (Nat × Nat × Nat × Nat)} (h1 : Cond.methodLink own idx y ∈ rl_G) (h2 : Cond.static y ∈ rl_G) (h4 : Cond.initialized own ∈ rl_G) (h5 : Cond.codeWith y cc maxL ret hh ∈ rl_G) : GoodIn rl_G (wsS own idx y (Cond.codeWith y cc maxL ret hh :: rl_G)) := by
  intro w hw
  simp only [wsS, List.cons_append, List.nil_append, List.mem_cons] at hw
  rcases hw with rfl | rfl | rfl | rfl | h
  · exact ⟨h1, rl_good h1⟩
  · exact ⟨h2, rl_good h2⟩
  · exact ⟨h4, rl_good h4⟩
  · exact ⟨h5, rl_good h5⟩
  · exact ⟨h, rl_good h⟩
theorem rl_gI {maxL : Nat} {y : MethodName} {cc : ByteArray} {ret : Option FieldType} (h5 : Cond.code y cc maxL ret ∈ rl_G) : GoodIn rl_G (Cond.code y cc maxL ret :: rl_G) := fun w hw => (List.mem_cons.mp hw).elim (fun e => by rw [e]; exact ⟨h5, rl_good h5⟩) (fun h => ⟨h, rl_good h⟩)
def fT_x : u_T := fun k => match k with
  | 0 => ("RightsLimit", "titles", "LRightsLimit$Titles;", true)
  | 1 => ("RightsLimit", "limits", "LRightsLimit$Limits;", true)
  | 2 => ("RightsLimit", "licences", "LRightsLimit$Licences;", true)
  | 3 => ("RightsLimit", "requests", "LRightsLimit$Requests;", true)
  | 4 => ("RightsLimit", "feeOfPublisher", "[I", true)
  | 5 => ("RightsLimit", "rightsOfPerson", "[I", true)
  | 6 => ("RightsLimit", "now", "I", false)
  | _ => ("RightsLimit", "latestWhy", "I", false)
def fy_x : Nat → FieldType := fun k => match k with
  | 0 => .object "RightsLimit$Titles"
  | 1 => .object "RightsLimit$Limits"
  | 2 => .object "RightsLimit$Licences"
  | 3 => .object "RightsLimit$Requests"
  | 4 => .array .int
  | 5 => .array .int
  | 6 => .int
  | _ => .int
theorem fn_x : ∀ a, a < 8 → ∀ b, b < 8 → a ≠ b → (fT_x a).2.1 ≠ (fT_x b).2.1 := by decide +kernel
theorem fo_x : ∀ k, k < 8 → parseFieldDescriptor (fT_x k).2.2.1 = some (fy_x k) := by decide +kernel
theorem fi_x : ∀ w ∈ u_ws "RightsLimit" fT_x 8, w ∈ rl_G := by
  have h1 : ∀ w ∈ u_ws "RightsLimit" fT_x 8, w ∈ lw_tbl := by decide +kernel
  have h2 : (u_ws "RightsLimit" fT_x 8).all goodWord = true := by decide +kernel
  exact fun w hw => List.mem_filter.mpr ⟨h1 w hw, List.all_eq_true.mp h2 w hw⟩
def fT_t : u_T := fun k => match k with
  | 0 => ("RightsLimit$Titles", "publisher", "[I", true)
  | 1 => ("RightsLimit$Titles", "isOpen", "[Z", true)
  | 2 => ("RightsLimit$Titles", "rightToWaive", "[I", true)
  | 3 => ("RightsLimit$Titles", "waiversLeft", "[I", true)
  | _ => ("RightsLimit$Titles", "count", "I", false)
def fy_t : Nat → FieldType := fun k => match k with
  | 0 => .array .int
  | 1 => .array .boolean
  | 2 => .array .int
  | 3 => .array .int
  | _ => .int
theorem fn_t : ∀ a, a < 5 → ∀ b, b < 5 → a ≠ b → (fT_t a).2.1 ≠ (fT_t b).2.1 := by decide +kernel
theorem fo_t : ∀ k, k < 5 → parseFieldDescriptor (fT_t k).2.2.1 = some (fy_t k) := by decide +kernel
theorem fi_t : ∀ w ∈ u_ws "RightsLimit$Titles" fT_t 5, w ∈ rl_G := by
  have h1 : ∀ w ∈ u_ws "RightsLimit$Titles" fT_t 5, w ∈ lw_tbl := by decide +kernel
  have h2 : (u_ws "RightsLimit$Titles" fT_t 5).all goodWord = true := by decide +kernel
  exact fun w hw => List.mem_filter.mpr ⟨h1 w hw, List.all_eq_true.mp h2 w hw⟩
def fT_l : u_T := fun k => match k with
  | 0 => ("RightsLimit$Limits", "title", "[I", true)
  | 1 => ("RightsLimit$Limits", "kind", "[I", true)
  | 2 => ("RightsLimit$Limits", "days", "[I", true)
  | 3 => ("RightsLimit$Limits", "copies", "[I", true)
  | _ => ("RightsLimit$Limits", "count", "I", false)
def fy_l : Nat → FieldType := fun k => match k with
  | 0 => .array .int
  | 1 => .array .int
  | 2 => .array .int
  | 3 => .array .int
  | _ => .int
theorem fn_l : ∀ a, a < 5 → ∀ b, b < 5 → a ≠ b → (fT_l a).2.1 ≠ (fT_l b).2.1 := by decide +kernel
theorem fo_l : ∀ k, k < 5 → parseFieldDescriptor (fT_l k).2.2.1 = some (fy_l k) := by decide +kernel
theorem fi_l : ∀ w ∈ u_ws "RightsLimit$Limits" fT_l 5, w ∈ rl_G := by
  have h1 : ∀ w ∈ u_ws "RightsLimit$Limits" fT_l 5, w ∈ lw_tbl := by decide +kernel
  have h2 : (u_ws "RightsLimit$Limits" fT_l 5).all goodWord = true := by decide +kernel
  exact fun w hw => List.mem_filter.mpr ⟨h1 w hw, List.all_eq_true.mp h2 w hw⟩
def fT_c : u_T := fun k => match k with
  | 0 => ("RightsLimit$Licences", "title", "[I", true)
  | 1 => ("RightsLimit$Licences", "kind", "[I", true)
  | 2 => ("RightsLimit$Licences", "copiesLeft", "[I", true)
  | 3 => ("RightsLimit$Licences", "from", "[I", true)
  | 4 => ("RightsLimit$Licences", "to", "[I", true)
  | _ => ("RightsLimit$Licences", "count", "I", false)
def fy_c : Nat → FieldType := fun k => match k with
  | 0 => .array .int
  | 1 => .array .int
  | 2 => .array .int
  | 3 => .array .int
  | 4 => .array .int
  | _ => .int
theorem fn_c : ∀ a, a < 6 → ∀ b, b < 6 → a ≠ b → (fT_c a).2.1 ≠ (fT_c b).2.1 := by decide +kernel
theorem fo_c : ∀ k, k < 6 → parseFieldDescriptor (fT_c k).2.2.1 = some (fy_c k) := by decide +kernel
theorem fi_c : ∀ w ∈ u_ws "RightsLimit$Licences" fT_c 6, w ∈ rl_G := by
  have h1 : ∀ w ∈ u_ws "RightsLimit$Licences" fT_c 6, w ∈ lw_tbl := by decide +kernel
  have h2 : (u_ws "RightsLimit$Licences" fT_c 6).all goodWord = true := by decide +kernel
  exact fun w hw => List.mem_filter.mpr ⟨h1 w hw, List.all_eq_true.mp h2 w hw⟩
def fT_q : u_T := fun k => match k with
  | 0 => ("RightsLimit$Requests", "person", "[I", true)
  | 1 => ("RightsLimit$Requests", "title", "[I", true)
  | 2 => ("RightsLimit$Requests", "kind", "[I", true)
  | 3 => ("RightsLimit$Requests", "pages", "[I", true)
  | 4 => ("RightsLimit$Requests", "time", "[I", true)
  | 5 => ("RightsLimit$Requests", "by", "[I", true)
  | 6 => ("RightsLimit$Requests", "licence", "[I", true)
  | 7 => ("RightsLimit$Requests", "centsEachTime", "[I", true)
  | 8 => ("RightsLimit$Requests", "centsInAll", "[I", true)
  | 9 => ("RightsLimit$Requests", "end", "[I", true)
  | 10 => ("RightsLimit$Requests", "renewals", "[I", true)
  | 11 => ("RightsLimit$Requests", "deletedAt", "[I", true)
  | _ => ("RightsLimit$Requests", "count", "I", false)
def fy_q : Nat → FieldType := fun k => match k with
  | 0 => .array .int
  | 1 => .array .int
  | 2 => .array .int
  | 3 => .array .int
  | 4 => .array .int
  | 5 => .array .int
  | 6 => .array .int
  | 7 => .array .int
  | 8 => .array .int
  | 9 => .array .int
  | 10 => .array .int
  | 11 => .array .int
  | _ => .int
theorem fn_q : ∀ a, a < 13 → ∀ b, b < 13 → a ≠ b → (fT_q a).2.1 ≠ (fT_q b).2.1 := by decide +kernel
theorem fo_q : ∀ k, k < 13 → parseFieldDescriptor (fT_q k).2.2.1 = some (fy_q k) := by decide +kernel
theorem fi_q : ∀ w ∈ u_ws "RightsLimit$Requests" fT_q 13, w ∈ rl_G := by
  have h1 : ∀ w ∈ u_ws "RightsLimit$Requests" fT_q 13, w ∈ lw_tbl := by decide +kernel
  have h2 : (u_ws "RightsLimit$Requests" fT_q 13).all goodWord = true := by decide +kernel
  exact fun w hw => List.mem_filter.mpr ⟨h1 w hw, List.all_eq_true.mp h2 w hw⟩
def fT_m : u_T := fun k => match k with
  | 0 => ("RightsLimitModel", "thrown", "I", false)
  | 1 => ("RightsLimitModel", "now", "I", false)
  | 2 => ("RightsLimitModel", "titles", "I", false)
  | 3 => ("RightsLimitModel", "publisher", "[I", true)
  | 4 => ("RightsLimitModel", "isOpen", "[Z", true)
  | 5 => ("RightsLimitModel", "titleRight", "[I", true)
  | 6 => ("RightsLimitModel", "waivers", "[I", true)
  | 7 => ("RightsLimitModel", "fees", "[I", true)
  | 8 => ("RightsLimitModel", "rights", "[Z", true)
  | 9 => ("RightsLimitModel", "limits", "I", false)
  | 10 => ("RightsLimitModel", "limitTitle", "[I", true)
  | 11 => ("RightsLimitModel", "limitKind", "[I", true)
  | 12 => ("RightsLimitModel", "limitDays", "[I", true)
  | 13 => ("RightsLimitModel", "limitMost", "[I", true)
  | 14 => ("RightsLimitModel", "licences", "I", false)
  | 15 => ("RightsLimitModel", "licenceTitle", "[I", true)
  | 16 => ("RightsLimitModel", "licenceKind", "[I", true)
  | 17 => ("RightsLimitModel", "licenceLeft", "[I", true)
  | 18 => ("RightsLimitModel", "licenceFrom", "[I", true)
  | 19 => ("RightsLimitModel", "licenceTo", "[I", true)
  | 20 => ("RightsLimitModel", "requests", "I", false)
  | 21 => ("RightsLimitModel", "person", "[I", true)
  | 22 => ("RightsLimitModel", "title", "[I", true)
  | 23 => ("RightsLimitModel", "kind", "[I", true)
  | 24 => ("RightsLimitModel", "pages", "[I", true)
  | 25 => ("RightsLimitModel", "time", "[I", true)
  | 26 => ("RightsLimitModel", "by", "[I", true)
  | 27 => ("RightsLimitModel", "byLicence", "[I", true)
  | 28 => ("RightsLimitModel", "fee", "[I", true)
  | 29 => ("RightsLimitModel", "end", "[I", true)
  | 30 => ("RightsLimitModel", "renewed", "[I", true)
  | 31 => ("RightsLimitModel", "deleted", "[I", true)
  | _ => ("RightsLimitModel", "why", "I", false)
def fy_m : Nat → FieldType := fun k => match k with
  | 0 => .int
  | 1 => .int
  | 2 => .int
  | 3 => .array .int
  | 4 => .array .boolean
  | 5 => .array .int
  | 6 => .array .int
  | 7 => .array .int
  | 8 => .array .boolean
  | 9 => .int
  | 10 => .array .int
  | 11 => .array .int
  | 12 => .array .int
  | 13 => .array .int
  | 14 => .int
  | 15 => .array .int
  | 16 => .array .int
  | 17 => .array .int
  | 18 => .array .int
  | 19 => .array .int
  | 20 => .int
  | 21 => .array .int
  | 22 => .array .int
  | 23 => .array .int
  | 24 => .array .int
  | 25 => .array .int
  | 26 => .array .int
  | 27 => .array .int
  | 28 => .array .int
  | 29 => .array .int
  | 30 => .array .int
  | 31 => .array .int
  | _ => .int
theorem fn_m : ∀ a, a < 33 → ∀ b, b < 33 → a ≠ b → (fT_m a).2.1 ≠ (fT_m b).2.1 := by decide +kernel
theorem fo_m : ∀ k, k < 33 → parseFieldDescriptor (fT_m k).2.2.1 = some (fy_m k) := by decide +kernel
theorem fi_m : ∀ w ∈ u_ws "RightsLimitModel" fT_m 33, w ∈ rl_G := by
  have h1 : ∀ w ∈ u_ws "RightsLimitModel" fT_m 33, w ∈ lw_tbl := by decide +kernel
  have h2 : (u_ws "RightsLimitModel" fT_m 33).all goodWord = true := by decide +kernel
  exact fun w hw => List.mem_filter.mpr ⟨h1 w hw, List.all_eq_true.mp h2 w hw⟩
abbrev rl_cl : List vw_C := [("RightsLimit", fT_x, 8), ("RightsLimit$Titles", fT_t, 5), ("RightsLimit$Limits", fT_l, 5), ("RightsLimit$Licences", fT_c, 6), ("RightsLimit$Requests", fT_q, 13), ("RightsLimitModel", fT_m, 33)]
theorem rl_nm2 : ((-2) : Int32).toInt = -2 := by decide
theorem rl_nm1 : ((-1) : Int32).toInt = -1 := by decide
theorem rl_n0 : (0 : Int32).toInt = 0 := by decide
theorem rl_n1 : (1 : Int32).toInt = 1 := by decide
theorem rl_n3 : (3 : Int32).toInt = 3 := by decide
theorem rl_n9 : (9 : Int32).toInt = 9 := by decide
theorem rl_n99 : (99 : Int32).toInt = 99 := by decide
theorem rl_n10000 : (10000 : Int32).toInt = 10000 := by decide
end
section
set_option maxRecDepth 100000 in
theorem wd_6 : Cond.selects "RightsLimitModel" ⟨"RightsLimitModel", "isTitle", "(I)Z"⟩ ⟨"RightsLimitModel", "isTitle", "(I)Z"⟩ ∈ rl_G := rl_wd 6 rfl rfl
set_option maxRecDepth 100000 in
theorem wd_14 : Cond.initialized "RightsLimit" ∈ rl_G := rl_wd 14 rfl rfl
set_option maxRecDepth 100000 in
theorem wd_15 : Cond.initialized "RightsLimit$Titles" ∈ rl_G := rl_wd 15 rfl rfl
set_option maxRecDepth 100000 in
theorem wd_16 : Cond.initialized "RightsLimit$Limits" ∈ rl_G := rl_wd 16 rfl rfl
set_option maxRecDepth 100000 in
theorem wd_17 : Cond.initialized "RightsLimit$Licences" ∈ rl_G := rl_wd 17 rfl rfl
set_option maxRecDepth 100000 in
theorem wd_18 : Cond.initialized "RightsLimit$Requests" ∈ rl_G := rl_wd 18 rfl rfl
set_option maxRecDepth 100000 in
theorem wd_19 : Cond.initialized "RightsLimitModel" ∈ rl_G := rl_wd 19 rfl rfl
set_option maxRecDepth 100000 in
theorem wd_23 : Cond.initialized "java/util/NoSuchElementException" ∈ rl_G := rl_wd 23 rfl rfl
set_option maxRecDepth 100000 in
theorem wd_29 : Cond.methodLink "RightsLimit" 3 ⟨"java/lang/Object", "<init>", "()V"⟩ ∈ rl_G := rl_wd 29 rfl rfl
set_option maxRecDepth 100000 in
theorem wd_30 : Cond.instanceMethod ⟨"java/lang/Object", "<init>", "()V"⟩ ∈ rl_G := rl_wd 30 rfl rfl
set_option maxRecDepth 100000 in
theorem wd_31 : Cond.code ⟨"java/lang/Object", "<init>", "()V"⟩ object_method_1_code 1 none ∈ rl_G := rl_wd 31 rfl rfl
set_option maxRecDepth 100000 in
theorem wd_32 : Cond.classLink "RightsLimit" 9 "RightsLimit$Titles" ∈ rl_G := rl_wd 32 rfl rfl
set_option maxRecDepth 100000 in
theorem wd_33 : Cond.instantiable "RightsLimit$Titles" 5 ∈ rl_G := rl_wd 33 rfl rfl
set_option maxRecDepth 100000 in
theorem wd_35 : Cond.instanceMethod ⟨"RightsLimit$Titles", "<init>", "()V"⟩ ∈ rl_G := rl_wd 35 rfl rfl
set_option maxRecDepth 100000 in
theorem wd_36 : Cond.code ⟨"RightsLimit$Titles", "<init>", "()V"⟩ prog_5_method_1_code 1 none ∈ rl_G := rl_wd 36 rfl rfl
set_option maxRecDepth 100000 in
theorem wd_37 : Cond.methodLink "RightsLimit$Titles" 3 ⟨"java/lang/Object", "<init>", "()V"⟩ ∈ rl_G := rl_wd 37 rfl rfl
set_option maxRecDepth 100000 in
theorem wd_38 : Cond.fieldLink "RightsLimit$Titles" 9 "RightsLimit$Titles" "publisher" "[I" ∈ rl_G := rl_wd 38 rfl rfl
set_option maxRecDepth 100000 in
theorem wd_40 : Cond.fieldLink "RightsLimit$Titles" 15 "RightsLimit$Titles" "isOpen" "[Z" ∈ rl_G := rl_wd 40 rfl rfl
set_option maxRecDepth 100000 in
theorem wd_42 : Cond.fieldLink "RightsLimit$Titles" 19 "RightsLimit$Titles" "rightToWaive" "[I" ∈ rl_G := rl_wd 42 rfl rfl
set_option maxRecDepth 100000 in
theorem wd_44 : Cond.fieldLink "RightsLimit$Titles" 22 "RightsLimit$Titles" "waiversLeft" "[I" ∈ rl_G := rl_wd 44 rfl rfl
set_option maxRecDepth 100000 in
theorem wd_46 : Cond.fieldLink "RightsLimit$Titles" 25 "RightsLimit$Titles" "count" "I" ∈ rl_G := rl_wd 46 rfl rfl
set_option maxRecDepth 100000 in
theorem wd_58 : Cond.arrayClass .int ∈ rl_G := rl_wd 58 rfl rfl
set_option maxRecDepth 100000 in
theorem wd_59 : Cond.arrayClass .boolean ∈ rl_G := rl_wd 59 rfl rfl
set_option maxRecDepth 100000 in
theorem wd_60 : Cond.classLink "RightsLimit" 16 "RightsLimit$Limits" ∈ rl_G := rl_wd 60 rfl rfl
set_option maxRecDepth 100000 in
theorem wd_61 : Cond.instantiable "RightsLimit$Limits" 5 ∈ rl_G := rl_wd 61 rfl rfl
set_option maxRecDepth 100000 in
theorem wd_63 : Cond.instanceMethod ⟨"RightsLimit$Limits", "<init>", "()V"⟩ ∈ rl_G := rl_wd 63 rfl rfl
set_option maxRecDepth 100000 in
theorem wd_64 : Cond.code ⟨"RightsLimit$Limits", "<init>", "()V"⟩ prog_3_method_1_code 1 none ∈ rl_G := rl_wd 64 rfl rfl
set_option maxRecDepth 100000 in
theorem wd_65 : Cond.methodLink "RightsLimit$Limits" 3 ⟨"java/lang/Object", "<init>", "()V"⟩ ∈ rl_G := rl_wd 65 rfl rfl
set_option maxRecDepth 100000 in
theorem wd_66 : Cond.fieldLink "RightsLimit$Limits" 9 "RightsLimit$Limits" "title" "[I" ∈ rl_G := rl_wd 66 rfl rfl
set_option maxRecDepth 100000 in
theorem wd_67 : Cond.fieldLink "RightsLimit$Limits" 15 "RightsLimit$Limits" "kind" "[I" ∈ rl_G := rl_wd 67 rfl rfl
set_option maxRecDepth 100000 in
theorem wd_68 : Cond.fieldLink "RightsLimit$Limits" 18 "RightsLimit$Limits" "days" "[I" ∈ rl_G := rl_wd 68 rfl rfl
set_option maxRecDepth 100000 in
theorem wd_70 : Cond.fieldLink "RightsLimit$Limits" 21 "RightsLimit$Limits" "copies" "[I" ∈ rl_G := rl_wd 70 rfl rfl
set_option maxRecDepth 100000 in
theorem wd_72 : Cond.fieldLink "RightsLimit$Limits" 24 "RightsLimit$Limits" "count" "I" ∈ rl_G := rl_wd 72 rfl rfl
set_option maxRecDepth 100000 in
theorem wd_85 : Cond.classLink "RightsLimit" 23 "RightsLimit$Licences" ∈ rl_G := rl_wd 85 rfl rfl
set_option maxRecDepth 100000 in
theorem wd_86 : Cond.instantiable "RightsLimit$Licences" 6 ∈ rl_G := rl_wd 86 rfl rfl
set_option maxRecDepth 100000 in
theorem wd_88 : Cond.instanceMethod ⟨"RightsLimit$Licences", "<init>", "()V"⟩ ∈ rl_G := rl_wd 88 rfl rfl
set_option maxRecDepth 100000 in
theorem wd_89 : Cond.code ⟨"RightsLimit$Licences", "<init>", "()V"⟩ prog_2_method_1_code 1 none ∈ rl_G := rl_wd 89 rfl rfl
set_option maxRecDepth 100000 in
theorem wd_90 : Cond.methodLink "RightsLimit$Licences" 3 ⟨"java/lang/Object", "<init>", "()V"⟩ ∈ rl_G := rl_wd 90 rfl rfl
set_option maxRecDepth 100000 in
theorem wd_91 : Cond.fieldLink "RightsLimit$Licences" 9 "RightsLimit$Licences" "title" "[I" ∈ rl_G := rl_wd 91 rfl rfl
set_option maxRecDepth 100000 in
theorem wd_92 : Cond.fieldLink "RightsLimit$Licences" 15 "RightsLimit$Licences" "kind" "[I" ∈ rl_G := rl_wd 92 rfl rfl
set_option maxRecDepth 100000 in
theorem wd_93 : Cond.fieldLink "RightsLimit$Licences" 18 "RightsLimit$Licences" "copiesLeft" "[I" ∈ rl_G := rl_wd 93 rfl rfl
set_option maxRecDepth 100000 in
theorem wd_95 : Cond.fieldLink "RightsLimit$Licences" 21 "RightsLimit$Licences" "from" "[I" ∈ rl_G := rl_wd 95 rfl rfl
set_option maxRecDepth 100000 in
theorem wd_96 : Cond.fieldLink "RightsLimit$Licences" 24 "RightsLimit$Licences" "to" "[I" ∈ rl_G := rl_wd 96 rfl rfl
set_option maxRecDepth 100000 in
theorem wd_97 : Cond.fieldLink "RightsLimit$Licences" 27 "RightsLimit$Licences" "count" "I" ∈ rl_G := rl_wd 97 rfl rfl
set_option maxRecDepth 100000 in
theorem wd_111 : Cond.classLink "RightsLimit" 30 "RightsLimit$Requests" ∈ rl_G := rl_wd 111 rfl rfl
set_option maxRecDepth 100000 in
theorem wd_112 : Cond.instantiable "RightsLimit$Requests" 13 ∈ rl_G := rl_wd 112 rfl rfl
set_option maxRecDepth 100000 in
theorem wd_114 : Cond.instanceMethod ⟨"RightsLimit$Requests", "<init>", "()V"⟩ ∈ rl_G := rl_wd 114 rfl rfl
set_option maxRecDepth 100000 in
theorem wd_115 : Cond.code ⟨"RightsLimit$Requests", "<init>", "()V"⟩ prog_4_method_1_code 1 none ∈ rl_G := rl_wd 115 rfl rfl
set_option maxRecDepth 100000 in
theorem wd_116 : Cond.methodLink "RightsLimit$Requests" 3 ⟨"java/lang/Object", "<init>", "()V"⟩ ∈ rl_G := rl_wd 116 rfl rfl
set_option maxRecDepth 100000 in
theorem wd_117 : Cond.fieldLink "RightsLimit$Requests" 9 "RightsLimit$Requests" "person" "[I" ∈ rl_G := rl_wd 117 rfl rfl
set_option maxRecDepth 100000 in
theorem wd_119 : Cond.fieldLink "RightsLimit$Requests" 15 "RightsLimit$Requests" "title" "[I" ∈ rl_G := rl_wd 119 rfl rfl
set_option maxRecDepth 100000 in
theorem wd_121 : Cond.fieldLink "RightsLimit$Requests" 18 "RightsLimit$Requests" "kind" "[I" ∈ rl_G := rl_wd 121 rfl rfl
set_option maxRecDepth 100000 in
theorem wd_123 : Cond.fieldLink "RightsLimit$Requests" 21 "RightsLimit$Requests" "pages" "[I" ∈ rl_G := rl_wd 123 rfl rfl
set_option maxRecDepth 100000 in
theorem wd_125 : Cond.fieldLink "RightsLimit$Requests" 24 "RightsLimit$Requests" "time" "[I" ∈ rl_G := rl_wd 125 rfl rfl
set_option maxRecDepth 100000 in
theorem wd_127 : Cond.fieldLink "RightsLimit$Requests" 27 "RightsLimit$Requests" "by" "[I" ∈ rl_G := rl_wd 127 rfl rfl
set_option maxRecDepth 100000 in
theorem wd_129 : Cond.fieldLink "RightsLimit$Requests" 30 "RightsLimit$Requests" "licence" "[I" ∈ rl_G := rl_wd 129 rfl rfl
set_option maxRecDepth 100000 in
theorem wd_131 : Cond.fieldLink "RightsLimit$Requests" 33 "RightsLimit$Requests" "centsEachTime" "[I" ∈ rl_G := rl_wd 131 rfl rfl
set_option maxRecDepth 100000 in
theorem wd_132 : Cond.fieldLink "RightsLimit$Requests" 36 "RightsLimit$Requests" "centsInAll" "[I" ∈ rl_G := rl_wd 132 rfl rfl
set_option maxRecDepth 100000 in
theorem wd_134 : Cond.fieldLink "RightsLimit$Requests" 39 "RightsLimit$Requests" "end" "[I" ∈ rl_G := rl_wd 134 rfl rfl
set_option maxRecDepth 100000 in
theorem wd_136 : Cond.fieldLink "RightsLimit$Requests" 42 "RightsLimit$Requests" "renewals" "[I" ∈ rl_G := rl_wd 136 rfl rfl
set_option maxRecDepth 100000 in
theorem wd_138 : Cond.fieldLink "RightsLimit$Requests" 45 "RightsLimit$Requests" "deletedAt" "[I" ∈ rl_G := rl_wd 138 rfl rfl
set_option maxRecDepth 100000 in
theorem wd_140 : Cond.fieldLink "RightsLimit$Requests" 48 "RightsLimit$Requests" "count" "I" ∈ rl_G := rl_wd 140 rfl rfl
set_option maxRecDepth 100000 in
theorem wd_168 : Cond.fieldLink "RightsLimit" 12 "RightsLimit" "titles" "LRightsLimit$Titles;" ∈ rl_G := rl_wd 168 rfl rfl
set_option maxRecDepth 100000 in
theorem wd_169 : Cond.fieldLink "RightsLimit" 19 "RightsLimit" "limits" "LRightsLimit$Limits;" ∈ rl_G := rl_wd 169 rfl rfl
set_option maxRecDepth 100000 in
theorem wd_170 : Cond.fieldLink "RightsLimit" 26 "RightsLimit" "licences" "LRightsLimit$Licences;" ∈ rl_G := rl_wd 170 rfl rfl
set_option maxRecDepth 100000 in
theorem wd_171 : Cond.fieldLink "RightsLimit" 33 "RightsLimit" "requests" "LRightsLimit$Requests;" ∈ rl_G := rl_wd 171 rfl rfl
set_option maxRecDepth 100000 in
theorem wd_172 : Cond.fieldLink "RightsLimit" 37 "RightsLimit" "feeOfPublisher" "[I" ∈ rl_G := rl_wd 172 rfl rfl
set_option maxRecDepth 100000 in
theorem wd_173 : Cond.fieldLink "RightsLimit" 41 "RightsLimit" "rightsOfPerson" "[I" ∈ rl_G := rl_wd 173 rfl rfl
set_option maxRecDepth 100000 in
theorem wd_174 : Cond.fieldLink "RightsLimit" 44 "RightsLimit" "now" "I" ∈ rl_G := rl_wd 174 rfl rfl
set_option maxRecDepth 100000 in
theorem wd_175 : Cond.fieldLink "RightsLimit" 48 "RightsLimit" "latestWhy" "I" ∈ rl_G := rl_wd 175 rfl rfl
set_option maxRecDepth 100000 in
theorem wd_197 : Cond.methodLink "RightsLimit" 51 ⟨"RightsLimit", "isPublisher", "(I)Z"⟩ ∈ rl_G := rl_wd 197 rfl rfl
set_option maxRecDepth 100000 in
theorem wd_198 : Cond.static ⟨"RightsLimit", "isPublisher", "(I)Z"⟩ ∈ rl_G := rl_wd 198 rfl rfl
set_option maxRecDepth 100000 in
theorem wd_199 : Cond.code ⟨"RightsLimit", "isPublisher", "(I)Z"⟩ prog_1_method_25_code 1 (some .boolean) ∈ rl_G := rl_wd 199 rfl rfl
set_option maxRecDepth 100000 in
theorem wd_200 : Cond.methodLink "RightsLimit" 84 ⟨"RightsLimit", "isBetween", "(III)Z"⟩ ∈ rl_G := rl_wd 200 rfl rfl
set_option maxRecDepth 100000 in
theorem wd_201 : Cond.static ⟨"RightsLimit", "isBetween", "(III)Z"⟩ ∈ rl_G := rl_wd 201 rfl rfl
set_option maxRecDepth 100000 in
theorem wd_202 : Cond.code ⟨"RightsLimit", "isBetween", "(III)Z"⟩ prog_1_method_30_code 3 (some .boolean) ∈ rl_G := rl_wd 202 rfl rfl
set_option maxRecDepth 100000 in
theorem wd_203 : Cond.methodLink "RightsLimit" 55 ⟨"RightsLimit$Titles", "add", "(I)I"⟩ ∈ rl_G := rl_wd 203 rfl rfl
set_option maxRecDepth 100000 in
theorem wd_204 : Cond.instanceMethod ⟨"RightsLimit$Titles", "add", "(I)I"⟩ ∈ rl_G := rl_wd 204 rfl rfl
set_option maxRecDepth 100000 in
theorem wd_205 : Cond.selects "RightsLimit$Titles" ⟨"RightsLimit$Titles", "add", "(I)I"⟩ ⟨"RightsLimit$Titles", "add", "(I)I"⟩ ∈ rl_G := rl_wd 205 rfl rfl
set_option maxRecDepth 100000 in
theorem wd_206 : Cond.code ⟨"RightsLimit$Titles", "add", "(I)I"⟩ prog_5_method_3_code 2 (some .int) ∈ rl_G := rl_wd 206 rfl rfl
set_option maxRecDepth 100000 in
theorem wd_211 : Cond.methodLink "RightsLimit" 59 ⟨"RightsLimit$Titles", "has", "(I)Z"⟩ ∈ rl_G := rl_wd 211 rfl rfl
set_option maxRecDepth 100000 in
theorem wd_212 : Cond.instanceMethod ⟨"RightsLimit$Titles", "has", "(I)Z"⟩ ∈ rl_G := rl_wd 212 rfl rfl
set_option maxRecDepth 100000 in
theorem wd_213 : Cond.selects "RightsLimit$Titles" ⟨"RightsLimit$Titles", "has", "(I)Z"⟩ ⟨"RightsLimit$Titles", "has", "(I)Z"⟩ ∈ rl_G := rl_wd 213 rfl rfl
set_option maxRecDepth 100000 in
theorem wd_214 : Cond.code ⟨"RightsLimit$Titles", "has", "(I)Z"⟩ prog_5_method_2_code 2 (some .boolean) ∈ rl_G := rl_wd 214 rfl rfl
set_option maxRecDepth 100000 in
theorem wd_252 : Cond.methodLink "RightsLimit" 88 ⟨"RightsLimit", "isPerson", "(I)Z"⟩ ∈ rl_G := rl_wd 252 rfl rfl
set_option maxRecDepth 100000 in
theorem wd_253 : Cond.static ⟨"RightsLimit", "isPerson", "(I)Z"⟩ ∈ rl_G := rl_wd 253 rfl rfl
set_option maxRecDepth 100000 in
theorem wd_254 : Cond.code ⟨"RightsLimit", "isPerson", "(I)Z"⟩ prog_1_method_26_code 1 (some .boolean) ∈ rl_G := rl_wd 254 rfl rfl
set_option maxRecDepth 100000 in
theorem wd_331 : Cond.methodLink "RightsLimit" 112 ⟨"RightsLimit$Requests", "has", "(I)Z"⟩ ∈ rl_G := rl_wd 331 rfl rfl
set_option maxRecDepth 100000 in
theorem wd_332 : Cond.instanceMethod ⟨"RightsLimit$Requests", "has", "(I)Z"⟩ ∈ rl_G := rl_wd 332 rfl rfl
set_option maxRecDepth 100000 in
theorem wd_333 : Cond.selects "RightsLimit$Requests" ⟨"RightsLimit$Requests", "has", "(I)Z"⟩ ⟨"RightsLimit$Requests", "has", "(I)Z"⟩ ∈ rl_G := rl_wd 333 rfl rfl
set_option maxRecDepth 100000 in
theorem wd_334 : Cond.code ⟨"RightsLimit$Requests", "has", "(I)Z"⟩ prog_4_method_2_code 2 (some .boolean) ∈ rl_G := rl_wd 334 rfl rfl
set_option maxRecDepth 100000 in
theorem wd_366 : Cond.methodLink "RightsLimit" 170 ⟨"RightsLimit$Licences", "has", "(I)Z"⟩ ∈ rl_G := rl_wd 366 rfl rfl
set_option maxRecDepth 100000 in
theorem wd_367 : Cond.instanceMethod ⟨"RightsLimit$Licences", "has", "(I)Z"⟩ ∈ rl_G := rl_wd 367 rfl rfl
set_option maxRecDepth 100000 in
theorem wd_368 : Cond.selects "RightsLimit$Licences" ⟨"RightsLimit$Licences", "has", "(I)Z"⟩ ⟨"RightsLimit$Licences", "has", "(I)Z"⟩ ∈ rl_G := rl_wd 368 rfl rfl
set_option maxRecDepth 100000 in
theorem wd_369 : Cond.code ⟨"RightsLimit$Licences", "has", "(I)Z"⟩ prog_2_method_2_code 2 (some .boolean) ∈ rl_G := rl_wd 369 rfl rfl
set_option maxRecDepth 100000 in
theorem wd_374 : Cond.methodLink "RightsLimit" 174 ⟨"RightsLimit$Requests", "countOf", "(I)I"⟩ ∈ rl_G := rl_wd 374 rfl rfl
set_option maxRecDepth 100000 in
theorem wd_375 : Cond.instanceMethod ⟨"RightsLimit$Requests", "countOf", "(I)I"⟩ ∈ rl_G := rl_wd 375 rfl rfl
set_option maxRecDepth 100000 in
theorem wd_376 : Cond.selects "RightsLimit$Requests" ⟨"RightsLimit$Requests", "countOf", "(I)I"⟩ ⟨"RightsLimit$Requests", "countOf", "(I)I"⟩ ∈ rl_G := rl_wd 376 rfl rfl
set_option maxRecDepth 100000 in
theorem wd_377 : Cond.code ⟨"RightsLimit$Requests", "countOf", "(I)I"⟩ prog_4_method_14_code 4 (some .int) ∈ rl_G := rl_wd 377 rfl rfl
set_option maxRecDepth 100000 in
theorem wd_378 : Cond.methodLink "RightsLimit" 177 ⟨"RightsLimit$Requests", "countRefusedOf", "(I)I"⟩ ∈ rl_G := rl_wd 378 rfl rfl
set_option maxRecDepth 100000 in
theorem wd_379 : Cond.instanceMethod ⟨"RightsLimit$Requests", "countRefusedOf", "(I)I"⟩ ∈ rl_G := rl_wd 379 rfl rfl
set_option maxRecDepth 100000 in
theorem wd_380 : Cond.selects "RightsLimit$Requests" ⟨"RightsLimit$Requests", "countRefusedOf", "(I)I"⟩ ⟨"RightsLimit$Requests", "countRefusedOf", "(I)I"⟩ ∈ rl_G := rl_wd 380 rfl rfl
set_option maxRecDepth 100000 in
theorem wd_381 : Cond.code ⟨"RightsLimit$Requests", "countRefusedOf", "(I)I"⟩ prog_4_method_15_code 4 (some .int) ∈ rl_G := rl_wd 381 rfl rfl
set_option maxRecDepth 100000 in
theorem wd_382 : Cond.methodLink "RightsLimit" 180 ⟨"RightsLimit$Requests", "pagesAllowedTo", "(I)I"⟩ ∈ rl_G := rl_wd 382 rfl rfl
set_option maxRecDepth 100000 in
theorem wd_383 : Cond.instanceMethod ⟨"RightsLimit$Requests", "pagesAllowedTo", "(I)I"⟩ ∈ rl_G := rl_wd 383 rfl rfl
set_option maxRecDepth 100000 in
theorem wd_384 : Cond.selects "RightsLimit$Requests" ⟨"RightsLimit$Requests", "pagesAllowedTo", "(I)I"⟩ ⟨"RightsLimit$Requests", "pagesAllowedTo", "(I)I"⟩ ∈ rl_G := rl_wd 384 rfl rfl
set_option maxRecDepth 100000 in
theorem wd_385 : Cond.code ⟨"RightsLimit$Requests", "pagesAllowedTo", "(I)I"⟩ prog_4_method_16_code 4 (some .int) ∈ rl_G := rl_wd 385 rfl rfl
set_option maxRecDepth 100000 in
theorem wd_386 : Cond.methodLink "RightsLimit" 183 ⟨"RightsLimit$Requests", "centsOf", "(I)I"⟩ ∈ rl_G := rl_wd 386 rfl rfl
set_option maxRecDepth 100000 in
theorem wd_387 : Cond.instanceMethod ⟨"RightsLimit$Requests", "centsOf", "(I)I"⟩ ∈ rl_G := rl_wd 387 rfl rfl
set_option maxRecDepth 100000 in
theorem wd_388 : Cond.selects "RightsLimit$Requests" ⟨"RightsLimit$Requests", "centsOf", "(I)I"⟩ ⟨"RightsLimit$Requests", "centsOf", "(I)I"⟩ ∈ rl_G := rl_wd 388 rfl rfl
set_option maxRecDepth 100000 in
theorem wd_389 : Cond.code ⟨"RightsLimit$Requests", "centsOf", "(I)I"⟩ prog_4_method_17_code 4 (some .int) ∈ rl_G := rl_wd 389 rfl rfl
set_option maxRecDepth 100000 in
theorem wd_392 : Cond.codeWith ⟨"RightsLimitLaw", "request", "(LRightsLimit;II[J)I"⟩ method_3_code 5 (some .int) [(0, 10, 13, 13)] ∈ rl_G := rl_wd 392 rfl rfl
set_option maxRecDepth 100000 in
theorem wd_393 : Cond.classLink "RightsLimitLaw" 13 "java/util/NoSuchElementException" ∈ rl_G := rl_wd 393 rfl rfl
set_option maxRecDepth 100000 in
theorem wd_394 : Cond.methodLink "RightsLimitLaw" 7 ⟨"RightsLimit", "request", "(II)I"⟩ ∈ rl_G := rl_wd 394 rfl rfl
set_option maxRecDepth 100000 in
theorem wd_395 : Cond.instanceMethod ⟨"RightsLimit", "request", "(II)I"⟩ ∈ rl_G := rl_wd 395 rfl rfl
set_option maxRecDepth 100000 in
theorem wd_396 : Cond.selects "RightsLimit" ⟨"RightsLimit", "request", "(II)I"⟩ ⟨"RightsLimit", "request", "(II)I"⟩ ∈ rl_G := rl_wd 396 rfl rfl
set_option maxRecDepth 100000 in
theorem wd_397 : Cond.code ⟨"RightsLimit", "request", "(II)I"⟩ prog_1_method_15_code 3 (some .int) ∈ rl_G := rl_wd 397 rfl rfl
set_option maxRecDepth 100000 in
theorem wd_398 : Cond.classLink "RightsLimit" 131 "java/util/NoSuchElementException" ∈ rl_G := rl_wd 398 rfl rfl
set_option maxRecDepth 100000 in
theorem wd_467 : Cond.codeWith ⟨"RightsLimitLaw", "past", "(LRightsLimit;II[J)I"⟩ method_4_code 5 (some .int) [(0, 10, 13, 13)] ∈ rl_G := rl_wd 467 rfl rfl
set_option maxRecDepth 100000 in
theorem wd_468 : Cond.methodLink "RightsLimitLaw" 15 ⟨"RightsLimit", "past", "(II)I"⟩ ∈ rl_G := rl_wd 468 rfl rfl
set_option maxRecDepth 100000 in
theorem wd_469 : Cond.instanceMethod ⟨"RightsLimit", "past", "(II)I"⟩ ∈ rl_G := rl_wd 469 rfl rfl
set_option maxRecDepth 100000 in
theorem wd_470 : Cond.selects "RightsLimit" ⟨"RightsLimit", "past", "(II)I"⟩ ⟨"RightsLimit", "past", "(II)I"⟩ ∈ rl_G := rl_wd 470 rfl rfl
set_option maxRecDepth 100000 in
theorem wd_471 : Cond.code ⟨"RightsLimit", "past", "(II)I"⟩ prog_1_method_18_code 4 (some .int) ∈ rl_G := rl_wd 471 rfl rfl
set_option maxRecDepth 100000 in
theorem wd_472 : Cond.methodLink "RightsLimit" 186 ⟨"RightsLimit$Requests", "endedAt", "(II)I"⟩ ∈ rl_G := rl_wd 472 rfl rfl
set_option maxRecDepth 100000 in
theorem wd_473 : Cond.instanceMethod ⟨"RightsLimit$Requests", "endedAt", "(II)I"⟩ ∈ rl_G := rl_wd 473 rfl rfl
set_option maxRecDepth 100000 in
theorem wd_474 : Cond.selects "RightsLimit$Requests" ⟨"RightsLimit$Requests", "endedAt", "(II)I"⟩ ⟨"RightsLimit$Requests", "endedAt", "(II)I"⟩ ∈ rl_G := rl_wd 474 rfl rfl
set_option maxRecDepth 100000 in
theorem wd_475 : Cond.code ⟨"RightsLimit$Requests", "endedAt", "(II)I"⟩ prog_4_method_13_code 5 (some .int) ∈ rl_G := rl_wd 475 rfl rfl
set_option maxRecDepth 100000 in
theorem wd_482 : Cond.methodLink "RightsLimitModel" 1 ⟨"java/lang/Object", "<init>", "()V"⟩ ∈ rl_G := rl_wd 482 rfl rfl
set_option maxRecDepth 100000 in
theorem wd_483 : Cond.fieldLink "RightsLimitModel" 93 "RightsLimitModel" "thrown" "I" ∈ rl_G := rl_wd 483 rfl rfl
set_option maxRecDepth 100000 in
theorem wd_485 : Cond.fieldLink "RightsLimitModel" 96 "RightsLimitModel" "titles" "I" ∈ rl_G := rl_wd 485 rfl rfl
set_option maxRecDepth 100000 in
theorem wd_486 : Cond.fieldLink "RightsLimitModel" 7 "RightsLimitModel" "publisher" "[I" ∈ rl_G := rl_wd 486 rfl rfl
set_option maxRecDepth 100000 in
theorem wd_487 : Cond.fieldLink "RightsLimitModel" 13 "RightsLimitModel" "isOpen" "[Z" ∈ rl_G := rl_wd 487 rfl rfl
set_option maxRecDepth 100000 in
theorem wd_488 : Cond.fieldLink "RightsLimitModel" 17 "RightsLimitModel" "titleRight" "[I" ∈ rl_G := rl_wd 488 rfl rfl
set_option maxRecDepth 100000 in
theorem wd_489 : Cond.fieldLink "RightsLimitModel" 20 "RightsLimitModel" "waivers" "[I" ∈ rl_G := rl_wd 489 rfl rfl
set_option maxRecDepth 100000 in
theorem wd_490 : Cond.fieldLink "RightsLimitModel" 23 "RightsLimitModel" "fees" "[I" ∈ rl_G := rl_wd 490 rfl rfl
set_option maxRecDepth 100000 in
theorem wd_491 : Cond.fieldLink "RightsLimitModel" 26 "RightsLimitModel" "rights" "[Z" ∈ rl_G := rl_wd 491 rfl rfl
set_option maxRecDepth 100000 in
theorem wd_493 : Cond.fieldLink "RightsLimitModel" 29 "RightsLimitModel" "limitTitle" "[I" ∈ rl_G := rl_wd 493 rfl rfl
set_option maxRecDepth 100000 in
theorem wd_494 : Cond.fieldLink "RightsLimitModel" 32 "RightsLimitModel" "limitKind" "[I" ∈ rl_G := rl_wd 494 rfl rfl
set_option maxRecDepth 100000 in
theorem wd_495 : Cond.fieldLink "RightsLimitModel" 35 "RightsLimitModel" "limitDays" "[I" ∈ rl_G := rl_wd 495 rfl rfl
set_option maxRecDepth 100000 in
theorem wd_496 : Cond.fieldLink "RightsLimitModel" 38 "RightsLimitModel" "limitMost" "[I" ∈ rl_G := rl_wd 496 rfl rfl
set_option maxRecDepth 100000 in
theorem wd_497 : Cond.fieldLink "RightsLimitModel" 114 "RightsLimitModel" "licences" "I" ∈ rl_G := rl_wd 497 rfl rfl
set_option maxRecDepth 100000 in
theorem wd_498 : Cond.fieldLink "RightsLimitModel" 41 "RightsLimitModel" "licenceTitle" "[I" ∈ rl_G := rl_wd 498 rfl rfl
set_option maxRecDepth 100000 in
theorem wd_499 : Cond.fieldLink "RightsLimitModel" 44 "RightsLimitModel" "licenceKind" "[I" ∈ rl_G := rl_wd 499 rfl rfl
set_option maxRecDepth 100000 in
theorem wd_500 : Cond.fieldLink "RightsLimitModel" 47 "RightsLimitModel" "licenceLeft" "[I" ∈ rl_G := rl_wd 500 rfl rfl
set_option maxRecDepth 100000 in
theorem wd_501 : Cond.fieldLink "RightsLimitModel" 50 "RightsLimitModel" "licenceFrom" "[I" ∈ rl_G := rl_wd 501 rfl rfl
set_option maxRecDepth 100000 in
theorem wd_502 : Cond.fieldLink "RightsLimitModel" 53 "RightsLimitModel" "licenceTo" "[I" ∈ rl_G := rl_wd 502 rfl rfl
set_option maxRecDepth 100000 in
theorem wd_503 : Cond.fieldLink "RightsLimitModel" 117 "RightsLimitModel" "requests" "I" ∈ rl_G := rl_wd 503 rfl rfl
set_option maxRecDepth 100000 in
theorem wd_504 : Cond.fieldLink "RightsLimitModel" 56 "RightsLimitModel" "person" "[I" ∈ rl_G := rl_wd 504 rfl rfl
set_option maxRecDepth 100000 in
theorem wd_505 : Cond.fieldLink "RightsLimitModel" 59 "RightsLimitModel" "title" "[I" ∈ rl_G := rl_wd 505 rfl rfl
set_option maxRecDepth 100000 in
theorem wd_506 : Cond.fieldLink "RightsLimitModel" 62 "RightsLimitModel" "kind" "[I" ∈ rl_G := rl_wd 506 rfl rfl
set_option maxRecDepth 100000 in
theorem wd_507 : Cond.fieldLink "RightsLimitModel" 65 "RightsLimitModel" "pages" "[I" ∈ rl_G := rl_wd 507 rfl rfl
set_option maxRecDepth 100000 in
theorem wd_508 : Cond.fieldLink "RightsLimitModel" 68 "RightsLimitModel" "time" "[I" ∈ rl_G := rl_wd 508 rfl rfl
set_option maxRecDepth 100000 in
theorem wd_509 : Cond.fieldLink "RightsLimitModel" 71 "RightsLimitModel" "by" "[I" ∈ rl_G := rl_wd 509 rfl rfl
set_option maxRecDepth 100000 in
theorem wd_510 : Cond.fieldLink "RightsLimitModel" 74 "RightsLimitModel" "byLicence" "[I" ∈ rl_G := rl_wd 510 rfl rfl
set_option maxRecDepth 100000 in
theorem wd_511 : Cond.fieldLink "RightsLimitModel" 77 "RightsLimitModel" "fee" "[I" ∈ rl_G := rl_wd 511 rfl rfl
set_option maxRecDepth 100000 in
theorem wd_512 : Cond.fieldLink "RightsLimitModel" 80 "RightsLimitModel" "end" "[I" ∈ rl_G := rl_wd 512 rfl rfl
set_option maxRecDepth 100000 in
theorem wd_513 : Cond.fieldLink "RightsLimitModel" 83 "RightsLimitModel" "renewed" "[I" ∈ rl_G := rl_wd 513 rfl rfl
set_option maxRecDepth 100000 in
theorem wd_514 : Cond.fieldLink "RightsLimitModel" 86 "RightsLimitModel" "deleted" "[I" ∈ rl_G := rl_wd 514 rfl rfl
set_option maxRecDepth 100000 in
theorem wd_515 : Cond.fieldLink "RightsLimitModel" 89 "RightsLimitModel" "why" "I" ∈ rl_G := rl_wd 515 rfl rfl
set_option maxRecDepth 100000 in
theorem wd_591 : Cond.methodLink "RightsLimitModel" 99 ⟨"RightsLimitModel", "in", "(III)Z"⟩ ∈ rl_G := rl_wd 591 rfl rfl
set_option maxRecDepth 100000 in
theorem wd_592 : Cond.static ⟨"RightsLimitModel", "in", "(III)Z"⟩ ∈ rl_G := rl_wd 592 rfl rfl
set_option maxRecDepth 100000 in
theorem wd_593 : Cond.code ⟨"RightsLimitModel", "in", "(III)Z"⟩ prog_7_method_3_code 3 (some .boolean) ∈ rl_G := rl_wd 593 rfl rfl
set_option maxRecDepth 100000 in
theorem wd_598 : Cond.methodLink "RightsLimitModel" 107 ⟨"RightsLimitModel", "isTitle", "(I)Z"⟩ ∈ rl_G := rl_wd 598 rfl rfl
set_option maxRecDepth 100000 in
theorem wd_600 : Cond.instanceMethod ⟨"RightsLimitModel", "isTitle", "(I)Z"⟩ ∈ rl_G := rl_wd 600 rfl rfl
set_option maxRecDepth 100000 in
theorem wd_601 : Cond.code ⟨"RightsLimitModel", "isTitle", "(I)Z"⟩ prog_7_method_4_code 2 (some .boolean) ∈ rl_G := rl_wd 601 rfl rfl
end
section
theorem d_x_init_0 : decode prog_1_method_1_code 0 = .ok (.aload_n 0, 1) := by decide +kernel
theorem d_x_init_1 : decode prog_1_method_1_code 1 = .ok (.invokespecial 3, 3) := by decide +kernel
theorem d_x_init_4 : decode prog_1_method_1_code 4 = .ok (.aload_n 0, 1) := by decide +kernel
theorem d_x_init_5 : decode prog_1_method_1_code 5 = .ok (.new 9, 3) := by decide +kernel
theorem d_x_init_8 : decode prog_1_method_1_code 8 = .ok (.dup, 1) := by decide +kernel
theorem d_x_init_9 : decode prog_1_method_1_code 9 = .ok (.invokespecial 11, 3) := by decide +kernel
theorem d_x_init_12 : decode prog_1_method_1_code 12 = .ok (.putfield 12, 3) := by decide +kernel
theorem d_x_init_15 : decode prog_1_method_1_code 15 = .ok (.aload_n 0, 1) := by decide +kernel
theorem d_x_init_16 : decode prog_1_method_1_code 16 = .ok (.new 16, 3) := by decide +kernel
theorem d_x_init_19 : decode prog_1_method_1_code 19 = .ok (.dup, 1) := by decide +kernel
theorem d_x_init_20 : decode prog_1_method_1_code 20 = .ok (.invokespecial 18, 3) := by decide +kernel
theorem d_x_init_23 : decode prog_1_method_1_code 23 = .ok (.putfield 19, 3) := by decide +kernel
theorem d_x_init_26 : decode prog_1_method_1_code 26 = .ok (.aload_n 0, 1) := by decide +kernel
theorem d_x_init_27 : decode prog_1_method_1_code 27 = .ok (.new 23, 3) := by decide +kernel
theorem d_x_init_30 : decode prog_1_method_1_code 30 = .ok (.dup, 1) := by decide +kernel
theorem d_x_init_31 : decode prog_1_method_1_code 31 = .ok (.invokespecial 25, 3) := by decide +kernel
theorem d_x_init_34 : decode prog_1_method_1_code 34 = .ok (.putfield 26, 3) := by decide +kernel
theorem d_x_init_37 : decode prog_1_method_1_code 37 = .ok (.aload_n 0, 1) := by decide +kernel
theorem d_x_init_38 : decode prog_1_method_1_code 38 = .ok (.new 30, 3) := by decide +kernel
theorem d_x_init_41 : decode prog_1_method_1_code 41 = .ok (.dup, 1) := by decide +kernel
theorem d_x_init_42 : decode prog_1_method_1_code 42 = .ok (.invokespecial 32, 3) := by decide +kernel
theorem d_x_init_45 : decode prog_1_method_1_code 45 = .ok (.putfield 33, 3) := by decide +kernel
theorem d_x_init_48 : decode prog_1_method_1_code 48 = .ok (.aload_n 0, 1) := by decide +kernel
theorem d_x_init_49 : decode prog_1_method_1_code 49 = .ok (.bipush 100, 2) := by decide +kernel
theorem d_x_init_51 : decode prog_1_method_1_code 51 = .ok (.newarray .int, 2) := by decide +kernel
theorem d_x_init_53 : decode prog_1_method_1_code 53 = .ok (.putfield 37, 3) := by decide +kernel
theorem d_x_init_56 : decode prog_1_method_1_code 56 = .ok (.aload_n 0, 1) := by decide +kernel
theorem d_x_init_57 : decode prog_1_method_1_code 57 = .ok (.bipush 100, 2) := by decide +kernel
theorem d_x_init_59 : decode prog_1_method_1_code 59 = .ok (.newarray .int, 2) := by decide +kernel
theorem d_x_init_61 : decode prog_1_method_1_code 61 = .ok (.putfield 41, 3) := by decide +kernel
theorem d_x_init_64 : decode prog_1_method_1_code 64 = .ok (.aload_n 0, 1) := by decide +kernel
theorem d_x_init_65 : decode prog_1_method_1_code 65 = .ok (.iconst 0, 1) := by decide +kernel
theorem d_x_init_66 : decode prog_1_method_1_code 66 = .ok (.putfield 44, 3) := by decide +kernel
theorem d_x_init_69 : decode prog_1_method_1_code 69 = .ok (.aload_n 0, 1) := by decide +kernel
theorem d_x_init_70 : decode prog_1_method_1_code 70 = .ok (.iconst (-1), 1) := by decide +kernel
theorem d_x_init_71 : decode prog_1_method_1_code 71 = .ok (.putfield 48, 3) := by decide +kernel
theorem d_x_init_74 : decode prog_1_method_1_code 74 = .ok (.return_, 1) := by decide +kernel
theorem d_x_ask_0 : decode prog_1_method_7_code 0 = .ok (.aload_n 0, 1) := by decide +kernel
theorem d_x_ask_1 : decode prog_1_method_7_code 1 = .ok (.getfield 12, 3) := by decide +kernel
theorem d_x_ask_4 : decode prog_1_method_7_code 4 = .ok (.iload_n 2, 1) := by decide +kernel
theorem d_x_ask_5 : decode prog_1_method_7_code 5 = .ok (.invokevirtual 59, 3) := by decide +kernel
theorem d_x_ask_8 : decode prog_1_method_7_code 8 = .ok (.ifCond .ne 5, 3) := by decide +kernel
theorem d_x_ask_11 : decode prog_1_method_7_code 11 = .ok (.iconst (-1), 1) := by decide +kernel
theorem d_x_ask_12 : decode prog_1_method_7_code 12 = .ok (.ireturn, 1) := by decide +kernel
theorem d_x_counted_0 : decode prog_1_method_14_code 0 = .ok (.aload_n 0, 1) := by decide +kernel
theorem d_x_counted_1 : decode prog_1_method_14_code 1 = .ok (.getfield 12, 3) := by decide +kernel
theorem d_x_counted_4 : decode prog_1_method_14_code 4 = .ok (.iload_n 1, 1) := by decide +kernel
theorem d_x_counted_5 : decode prog_1_method_14_code 5 = .ok (.invokevirtual 59, 3) := by decide +kernel
theorem d_x_counted_8 : decode prog_1_method_14_code 8 = .ok (.ifCond .ne 5, 3) := by decide +kernel
theorem d_x_counted_11 : decode prog_1_method_14_code 11 = .ok (.iconst (-1), 1) := by decide +kernel
theorem d_x_counted_12 : decode prog_1_method_14_code 12 = .ok (.ireturn, 1) := by decide +kernel
theorem d_x_delete_0 : decode prog_1_method_13_code 0 = .ok (.aload_n 0, 1) := by decide +kernel
theorem d_x_delete_1 : decode prog_1_method_13_code 1 = .ok (.getfield 33, 3) := by decide +kernel
theorem d_x_delete_4 : decode prog_1_method_13_code 4 = .ok (.iload_n 1, 1) := by decide +kernel
theorem d_x_delete_5 : decode prog_1_method_13_code 5 = .ok (.invokevirtual 112, 3) := by decide +kernel
theorem d_x_delete_8 : decode prog_1_method_13_code 8 = .ok (.ifCond .ne 5, 3) := by decide +kernel
theorem d_x_delete_11 : decode prog_1_method_13_code 11 = .ok (.iconst (-1), 1) := by decide +kernel
theorem d_x_delete_12 : decode prog_1_method_13_code 12 = .ok (.ireturn, 1) := by decide +kernel
theorem d_x_fee_0 : decode prog_1_method_6_code 0 = .ok (.iload_n 1, 1) := by decide +kernel
theorem d_x_fee_1 : decode prog_1_method_6_code 1 = .ok (.invokestatic 51, 3) := by decide +kernel
theorem d_x_fee_4 : decode prog_1_method_6_code 4 = .ok (.ifCond .eq 14, 3) := by decide +kernel
theorem d_x_fee_7 : decode prog_1_method_6_code 7 = .ok (.iload_n 2, 1) := by decide +kernel
theorem d_x_fee_8 : decode prog_1_method_6_code 8 = .ok (.iconst 0, 1) := by decide +kernel
theorem d_x_fee_9 : decode prog_1_method_6_code 9 = .ok (.sipush 10000, 3) := by decide +kernel
theorem d_x_fee_12 : decode prog_1_method_6_code 12 = .ok (.invokestatic 84, 3) := by decide +kernel
theorem d_x_fee_15 : decode prog_1_method_6_code 15 = .ok (.ifCond .ne 6, 3) := by decide +kernel
theorem d_x_fee_18 : decode prog_1_method_6_code 18 = .ok (.bipush (-2), 2) := by decide +kernel
theorem d_x_fee_20 : decode prog_1_method_6_code 20 = .ok (.ireturn, 1) := by decide +kernel
theorem d_x_fee_21 : decode prog_1_method_6_code 21 = .ok (.aload_n 0, 1) := by decide +kernel
theorem d_x_fee_22 : decode prog_1_method_6_code 22 = .ok (.getfield 37, 3) := by decide +kernel
theorem d_x_fee_25 : decode prog_1_method_6_code 25 = .ok (.iload_n 1, 1) := by decide +kernel
theorem d_x_fee_26 : decode prog_1_method_6_code 26 = .ok (.iload_n 2, 1) := by decide +kernel
theorem d_x_fee_27 : decode prog_1_method_6_code 27 = .ok (.iastore, 1) := by decide +kernel
theorem d_x_fee_28 : decode prog_1_method_6_code 28 = .ok (.iconst 1, 1) := by decide +kernel
theorem d_x_fee_29 : decode prog_1_method_6_code 29 = .ok (.ireturn, 1) := by decide +kernel
theorem d_x_give_0 : decode prog_1_method_9_code 0 = .ok (.iload_n 1, 1) := by decide +kernel
theorem d_x_give_1 : decode prog_1_method_9_code 1 = .ok (.invokestatic 88, 3) := by decide +kernel
theorem d_x_give_4 : decode prog_1_method_9_code 4 = .ok (.ifCond .eq 13, 3) := by decide +kernel
theorem d_x_give_7 : decode prog_1_method_9_code 7 = .ok (.iload_n 2, 1) := by decide +kernel
theorem d_x_give_8 : decode prog_1_method_9_code 8 = .ok (.iconst 1, 1) := by decide +kernel
theorem d_x_give_9 : decode prog_1_method_9_code 9 = .ok (.bipush 9, 2) := by decide +kernel
theorem d_x_give_11 : decode prog_1_method_9_code 11 = .ok (.invokestatic 84, 3) := by decide +kernel
theorem d_x_give_14 : decode prog_1_method_9_code 14 = .ok (.ifCond .ne 6, 3) := by decide +kernel
theorem d_x_give_17 : decode prog_1_method_9_code 17 = .ok (.bipush (-2), 2) := by decide +kernel
theorem d_x_give_19 : decode prog_1_method_9_code 19 = .ok (.ireturn, 1) := by decide +kernel
theorem d_x_give_20 : decode prog_1_method_9_code 20 = .ok (.iconst 1, 1) := by decide +kernel
theorem d_x_give_21 : decode prog_1_method_9_code 21 = .ok (.iload_n 2, 1) := by decide +kernel
theorem d_x_give_22 : decode prog_1_method_9_code 22 = .ok (.ishl, 1) := by decide +kernel
theorem d_x_give_23 : decode prog_1_method_9_code 23 = .ok (.istore 4, 2) := by decide +kernel
theorem d_x_give_25 : decode prog_1_method_9_code 25 = .ok (.iload_n 3, 1) := by decide +kernel
theorem d_x_give_26 : decode prog_1_method_9_code 26 = .ok (.ifCond .eq 17, 3) := by decide +kernel
theorem d_x_give_29 : decode prog_1_method_9_code 29 = .ok (.aload_n 0, 1) := by decide +kernel
theorem d_x_give_30 : decode prog_1_method_9_code 30 = .ok (.getfield 41, 3) := by decide +kernel
theorem d_x_give_33 : decode prog_1_method_9_code 33 = .ok (.iload_n 1, 1) := by decide +kernel
theorem d_x_give_34 : decode prog_1_method_9_code 34 = .ok (.dup2, 1) := by decide +kernel
theorem d_x_give_35 : decode prog_1_method_9_code 35 = .ok (.iaload, 1) := by decide +kernel
theorem d_x_give_36 : decode prog_1_method_9_code 36 = .ok (.iload 4, 2) := by decide +kernel
theorem d_x_give_38 : decode prog_1_method_9_code 38 = .ok (.ior, 1) := by decide +kernel
theorem d_x_give_39 : decode prog_1_method_9_code 39 = .ok (.iastore, 1) := by decide +kernel
theorem d_x_give_40 : decode prog_1_method_9_code 40 = .ok (.goto 16, 3) := by decide +kernel
theorem d_x_give_43 : decode prog_1_method_9_code 43 = .ok (.aload_n 0, 1) := by decide +kernel
theorem d_x_give_44 : decode prog_1_method_9_code 44 = .ok (.getfield 41, 3) := by decide +kernel
theorem d_x_give_47 : decode prog_1_method_9_code 47 = .ok (.iload_n 1, 1) := by decide +kernel
theorem d_x_give_48 : decode prog_1_method_9_code 48 = .ok (.dup2, 1) := by decide +kernel
theorem d_x_give_49 : decode prog_1_method_9_code 49 = .ok (.iaload, 1) := by decide +kernel
theorem d_x_give_50 : decode prog_1_method_9_code 50 = .ok (.iload 4, 2) := by decide +kernel
theorem d_x_give_52 : decode prog_1_method_9_code 52 = .ok (.iconst (-1), 1) := by decide +kernel
theorem d_x_give_53 : decode prog_1_method_9_code 53 = .ok (.ixor, 1) := by decide +kernel
theorem d_x_give_54 : decode prog_1_method_9_code 54 = .ok (.iand, 1) := by decide +kernel
theorem d_x_give_55 : decode prog_1_method_9_code 55 = .ok (.iastore, 1) := by decide +kernel
theorem d_x_give_56 : decode prog_1_method_9_code 56 = .ok (.iconst 1, 1) := by decide +kernel
theorem d_x_give_57 : decode prog_1_method_9_code 57 = .ok (.ireturn, 1) := by decide +kernel
theorem d_x_isBetween_0 : decode prog_1_method_30_code 0 = .ok (.iload_n 0, 1) := by decide +kernel
theorem d_x_isBetween_1 : decode prog_1_method_30_code 1 = .ok (.iload_n 1, 1) := by decide +kernel
theorem d_x_isBetween_2 : decode prog_1_method_30_code 2 = .ok (.if_icmp .lt 12, 3) := by decide +kernel
theorem d_x_isBetween_5 : decode prog_1_method_30_code 5 = .ok (.iload_n 0, 1) := by decide +kernel
theorem d_x_isBetween_6 : decode prog_1_method_30_code 6 = .ok (.iload_n 2, 1) := by decide +kernel
theorem d_x_isBetween_7 : decode prog_1_method_30_code 7 = .ok (.if_icmp .gt 7, 3) := by decide +kernel
theorem d_x_isBetween_10 : decode prog_1_method_30_code 10 = .ok (.iconst 1, 1) := by decide +kernel
theorem d_x_isBetween_11 : decode prog_1_method_30_code 11 = .ok (.goto 4, 3) := by decide +kernel
theorem d_x_isBetween_14 : decode prog_1_method_30_code 14 = .ok (.iconst 0, 1) := by decide +kernel
theorem d_x_isBetween_15 : decode prog_1_method_30_code 15 = .ok (.ireturn, 1) := by decide +kernel
theorem d_x_isPerson_0 : decode prog_1_method_26_code 0 = .ok (.iload_n 0, 1) := by decide +kernel
theorem d_x_isPerson_1 : decode prog_1_method_26_code 1 = .ok (.iconst 0, 1) := by decide +kernel
theorem d_x_isPerson_2 : decode prog_1_method_26_code 2 = .ok (.bipush 99, 2) := by decide +kernel
theorem d_x_isPerson_4 : decode prog_1_method_26_code 4 = .ok (.invokestatic 84, 3) := by decide +kernel
theorem d_x_isPerson_7 : decode prog_1_method_26_code 7 = .ok (.ireturn, 1) := by decide +kernel
theorem d_x_isPublisher_0 : decode prog_1_method_25_code 0 = .ok (.iload_n 0, 1) := by decide +kernel
theorem d_x_isPublisher_1 : decode prog_1_method_25_code 1 = .ok (.iconst 0, 1) := by decide +kernel
theorem d_x_isPublisher_2 : decode prog_1_method_25_code 2 = .ok (.bipush 99, 2) := by decide +kernel
theorem d_x_isPublisher_4 : decode prog_1_method_25_code 4 = .ok (.invokestatic 84, 3) := by decide +kernel
theorem d_x_isPublisher_7 : decode prog_1_method_25_code 7 = .ok (.ireturn, 1) := by decide +kernel
theorem d_x_left_0 : decode prog_1_method_16_code 0 = .ok (.aload_n 0, 1) := by decide +kernel
theorem d_x_left_1 : decode prog_1_method_16_code 1 = .ok (.getfield 26, 3) := by decide +kernel
theorem d_x_left_4 : decode prog_1_method_16_code 4 = .ok (.iload_n 1, 1) := by decide +kernel
theorem d_x_left_5 : decode prog_1_method_16_code 5 = .ok (.invokevirtual 170, 3) := by decide +kernel
theorem d_x_left_8 : decode prog_1_method_16_code 8 = .ok (.ifCond .eq 15, 3) := by decide +kernel
theorem d_x_left_23 : decode prog_1_method_16_code 23 = .ok (.iconst (-1), 1) := by decide +kernel
theorem d_x_left_24 : decode prog_1_method_16_code 24 = .ok (.ireturn, 1) := by decide +kernel
theorem d_x_licence_0 : decode prog_1_method_5_code 0 = .ok (.aload_n 0, 1) := by decide +kernel
theorem d_x_licence_1 : decode prog_1_method_5_code 1 = .ok (.getfield 12, 3) := by decide +kernel
theorem d_x_licence_4 : decode prog_1_method_5_code 4 = .ok (.iload_n 1, 1) := by decide +kernel
theorem d_x_licence_5 : decode prog_1_method_5_code 5 = .ok (.invokevirtual 59, 3) := by decide +kernel
theorem d_x_licence_8 : decode prog_1_method_5_code 8 = .ok (.ifCond .ne 5, 3) := by decide +kernel
theorem d_x_licence_11 : decode prog_1_method_5_code 11 = .ok (.iconst (-1), 1) := by decide +kernel
theorem d_x_licence_12 : decode prog_1_method_5_code 12 = .ok (.ireturn, 1) := by decide +kernel
theorem d_x_limit_0 : decode prog_1_method_4_code 0 = .ok (.aload_n 0, 1) := by decide +kernel
theorem d_x_limit_1 : decode prog_1_method_4_code 1 = .ok (.getfield 12, 3) := by decide +kernel
theorem d_x_limit_4 : decode prog_1_method_4_code 4 = .ok (.iload_n 1, 1) := by decide +kernel
theorem d_x_limit_5 : decode prog_1_method_4_code 5 = .ok (.invokevirtual 59, 3) := by decide +kernel
theorem d_x_limit_8 : decode prog_1_method_4_code 8 = .ok (.ifCond .ne 5, 3) := by decide +kernel
theorem d_x_limit_11 : decode prog_1_method_4_code 11 = .ok (.iconst (-1), 1) := by decide +kernel
theorem d_x_limit_12 : decode prog_1_method_4_code 12 = .ok (.ireturn, 1) := by decide +kernel
theorem d_x_open_0 : decode prog_1_method_3_code 0 = .ok (.aload_n 0, 1) := by decide +kernel
theorem d_x_open_1 : decode prog_1_method_3_code 1 = .ok (.getfield 12, 3) := by decide +kernel
theorem d_x_open_4 : decode prog_1_method_3_code 4 = .ok (.iload_n 1, 1) := by decide +kernel
theorem d_x_open_5 : decode prog_1_method_3_code 5 = .ok (.invokevirtual 59, 3) := by decide +kernel
theorem d_x_open_8 : decode prog_1_method_3_code 8 = .ok (.ifCond .ne 5, 3) := by decide +kernel
theorem d_x_open_11 : decode prog_1_method_3_code 11 = .ok (.iconst (-1), 1) := by decide +kernel
theorem d_x_open_12 : decode prog_1_method_3_code 12 = .ok (.ireturn, 1) := by decide +kernel
theorem d_x_past_0 : decode prog_1_method_18_code 0 = .ok (.aload_n 0, 1) := by decide +kernel
theorem d_x_past_1 : decode prog_1_method_18_code 1 = .ok (.getfield 33, 3) := by decide +kernel
theorem d_x_past_4 : decode prog_1_method_18_code 4 = .ok (.iload_n 1, 1) := by decide +kernel
theorem d_x_past_5 : decode prog_1_method_18_code 5 = .ok (.iload_n 2, 1) := by decide +kernel
theorem d_x_past_6 : decode prog_1_method_18_code 6 = .ok (.invokevirtual 186, 3) := by decide +kernel
theorem d_x_past_9 : decode prog_1_method_18_code 9 = .ok (.istore_n 3, 1) := by decide +kernel
theorem d_x_past_10 : decode prog_1_method_18_code 10 = .ok (.iload_n 3, 1) := by decide +kernel
theorem d_x_past_11 : decode prog_1_method_18_code 11 = .ok (.iconst (-1), 1) := by decide +kernel
theorem d_x_past_12 : decode prog_1_method_18_code 12 = .ok (.if_icmp .ne 13, 3) := by decide +kernel
theorem d_x_past_15 : decode prog_1_method_18_code 15 = .ok (.new 131, 3) := by decide +kernel
theorem d_x_past_18 : decode prog_1_method_18_code 18 = .ok (.dup, 1) := by decide +kernel
theorem d_x_past_19 : decode prog_1_method_18_code 19 = .ok (.ldc 190, 2) := by decide +kernel
theorem d_x_past_21 : decode prog_1_method_18_code 21 = .ok (.invokespecial 135, 3) := by decide +kernel
theorem d_x_past_24 : decode prog_1_method_18_code 24 = .ok (.athrow, 1) := by decide +kernel
theorem d_x_renew_0 : decode prog_1_method_12_code 0 = .ok (.aload_n 0, 1) := by decide +kernel
theorem d_x_renew_1 : decode prog_1_method_12_code 1 = .ok (.getfield 33, 3) := by decide +kernel
theorem d_x_renew_4 : decode prog_1_method_12_code 4 = .ok (.iload_n 1, 1) := by decide +kernel
theorem d_x_renew_5 : decode prog_1_method_12_code 5 = .ok (.invokevirtual 112, 3) := by decide +kernel
theorem d_x_renew_8 : decode prog_1_method_12_code 8 = .ok (.ifCond .ne 5, 3) := by decide +kernel
theorem d_x_renew_11 : decode prog_1_method_12_code 11 = .ok (.iconst (-1), 1) := by decide +kernel
theorem d_x_renew_12 : decode prog_1_method_12_code 12 = .ok (.ireturn, 1) := by decide +kernel
theorem d_x_request_0 : decode prog_1_method_15_code 0 = .ok (.aload_n 0, 1) := by decide +kernel
theorem d_x_request_1 : decode prog_1_method_15_code 1 = .ok (.getfield 33, 3) := by decide +kernel
theorem d_x_request_4 : decode prog_1_method_15_code 4 = .ok (.iload_n 1, 1) := by decide +kernel
theorem d_x_request_5 : decode prog_1_method_15_code 5 = .ok (.invokevirtual 112, 3) := by decide +kernel
theorem d_x_request_8 : decode prog_1_method_15_code 8 = .ok (.ifCond .ne 13, 3) := by decide +kernel
theorem d_x_request_11 : decode prog_1_method_15_code 11 = .ok (.new 131, 3) := by decide +kernel
theorem d_x_request_14 : decode prog_1_method_15_code 14 = .ok (.dup, 1) := by decide +kernel
theorem d_x_request_15 : decode prog_1_method_15_code 15 = .ok (.ldc 133, 2) := by decide +kernel
theorem d_x_request_17 : decode prog_1_method_15_code 17 = .ok (.invokespecial 135, 3) := by decide +kernel
theorem d_x_request_20 : decode prog_1_method_15_code 20 = .ok (.athrow, 1) := by decide +kernel
theorem d_x_right_0 : decode prog_1_method_10_code 0 = .ok (.aload_n 0, 1) := by decide +kernel
theorem d_x_right_1 : decode prog_1_method_10_code 1 = .ok (.getfield 12, 3) := by decide +kernel
theorem d_x_right_4 : decode prog_1_method_10_code 4 = .ok (.iload_n 1, 1) := by decide +kernel
theorem d_x_right_5 : decode prog_1_method_10_code 5 = .ok (.invokevirtual 59, 3) := by decide +kernel
theorem d_x_right_8 : decode prog_1_method_10_code 8 = .ok (.ifCond .ne 5, 3) := by decide +kernel
theorem d_x_right_11 : decode prog_1_method_10_code 11 = .ok (.iconst (-1), 1) := by decide +kernel
theorem d_x_right_12 : decode prog_1_method_10_code 12 = .ok (.ireturn, 1) := by decide +kernel
theorem d_x_statistics_0 : decode prog_1_method_17_code 0 = .ok (.iload_n 1, 1) := by decide +kernel
theorem d_x_statistics_1 : decode prog_1_method_17_code 1 = .ok (.invokestatic 88, 3) := by decide +kernel
theorem d_x_statistics_4 : decode prog_1_method_17_code 4 = .ok (.ifCond .ne 5, 3) := by decide +kernel
theorem d_x_statistics_7 : decode prog_1_method_17_code 7 = .ok (.iconst (-1), 1) := by decide +kernel
theorem d_x_statistics_8 : decode prog_1_method_17_code 8 = .ok (.ireturn, 1) := by decide +kernel
theorem d_x_statistics_9 : decode prog_1_method_17_code 9 = .ok (.iload_n 2, 1) := by decide +kernel
theorem d_x_statistics_10 : decode prog_1_method_17_code 10 = .ok (.tableswitch 66 0 3 #[30, 39, 48, 57], 30) := by decide +kernel
theorem d_x_statistics_40 : decode prog_1_method_17_code 40 = .ok (.aload_n 0, 1) := by decide +kernel
theorem d_x_statistics_41 : decode prog_1_method_17_code 41 = .ok (.getfield 33, 3) := by decide +kernel
theorem d_x_statistics_44 : decode prog_1_method_17_code 44 = .ok (.iload_n 1, 1) := by decide +kernel
theorem d_x_statistics_45 : decode prog_1_method_17_code 45 = .ok (.invokevirtual 174, 3) := by decide +kernel
theorem d_x_statistics_48 : decode prog_1_method_17_code 48 = .ok (.ireturn, 1) := by decide +kernel
theorem d_x_statistics_49 : decode prog_1_method_17_code 49 = .ok (.aload_n 0, 1) := by decide +kernel
theorem d_x_statistics_50 : decode prog_1_method_17_code 50 = .ok (.getfield 33, 3) := by decide +kernel
theorem d_x_statistics_53 : decode prog_1_method_17_code 53 = .ok (.iload_n 1, 1) := by decide +kernel
theorem d_x_statistics_54 : decode prog_1_method_17_code 54 = .ok (.invokevirtual 177, 3) := by decide +kernel
theorem d_x_statistics_57 : decode prog_1_method_17_code 57 = .ok (.ireturn, 1) := by decide +kernel
theorem d_x_statistics_58 : decode prog_1_method_17_code 58 = .ok (.aload_n 0, 1) := by decide +kernel
theorem d_x_statistics_59 : decode prog_1_method_17_code 59 = .ok (.getfield 33, 3) := by decide +kernel
theorem d_x_statistics_62 : decode prog_1_method_17_code 62 = .ok (.iload_n 1, 1) := by decide +kernel
theorem d_x_statistics_63 : decode prog_1_method_17_code 63 = .ok (.invokevirtual 180, 3) := by decide +kernel
theorem d_x_statistics_66 : decode prog_1_method_17_code 66 = .ok (.ireturn, 1) := by decide +kernel
theorem d_x_statistics_67 : decode prog_1_method_17_code 67 = .ok (.aload_n 0, 1) := by decide +kernel
theorem d_x_statistics_68 : decode prog_1_method_17_code 68 = .ok (.getfield 33, 3) := by decide +kernel
theorem d_x_statistics_71 : decode prog_1_method_17_code 71 = .ok (.iload_n 1, 1) := by decide +kernel
theorem d_x_statistics_72 : decode prog_1_method_17_code 72 = .ok (.invokevirtual 183, 3) := by decide +kernel
theorem d_x_statistics_75 : decode prog_1_method_17_code 75 = .ok (.ireturn, 1) := by decide +kernel
theorem d_x_statistics_76 : decode prog_1_method_17_code 76 = .ok (.iconst (-1), 1) := by decide +kernel
theorem d_x_statistics_77 : decode prog_1_method_17_code 77 = .ok (.ireturn, 1) := by decide +kernel
theorem d_x_title_0 : decode prog_1_method_2_code 0 = .ok (.iload_n 1, 1) := by decide +kernel
theorem d_x_title_1 : decode prog_1_method_2_code 1 = .ok (.invokestatic 51, 3) := by decide +kernel
theorem d_x_title_4 : decode prog_1_method_2_code 4 = .ok (.ifCond .ne 6, 3) := by decide +kernel
theorem d_x_title_7 : decode prog_1_method_2_code 7 = .ok (.bipush (-2), 2) := by decide +kernel
theorem d_x_title_9 : decode prog_1_method_2_code 9 = .ok (.ireturn, 1) := by decide +kernel
theorem d_x_title_10 : decode prog_1_method_2_code 10 = .ok (.aload_n 0, 1) := by decide +kernel
theorem d_x_title_11 : decode prog_1_method_2_code 11 = .ok (.getfield 12, 3) := by decide +kernel
theorem d_x_title_14 : decode prog_1_method_2_code 14 = .ok (.iload_n 1, 1) := by decide +kernel
theorem d_x_title_15 : decode prog_1_method_2_code 15 = .ok (.invokevirtual 55, 3) := by decide +kernel
theorem d_x_title_18 : decode prog_1_method_2_code 18 = .ok (.ireturn, 1) := by decide +kernel
theorem d_x_waive_0 : decode prog_1_method_11_code 0 = .ok (.aload_n 0, 1) := by decide +kernel
theorem d_x_waive_1 : decode prog_1_method_11_code 1 = .ok (.getfield 12, 3) := by decide +kernel
theorem d_x_waive_4 : decode prog_1_method_11_code 4 = .ok (.iload_n 1, 1) := by decide +kernel
theorem d_x_waive_5 : decode prog_1_method_11_code 5 = .ok (.invokevirtual 59, 3) := by decide +kernel
theorem d_x_waive_8 : decode prog_1_method_11_code 8 = .ok (.ifCond .ne 5, 3) := by decide +kernel
theorem d_x_waive_11 : decode prog_1_method_11_code 11 = .ok (.iconst (-1), 1) := by decide +kernel
theorem d_x_waive_12 : decode prog_1_method_11_code 12 = .ok (.ireturn, 1) := by decide +kernel
theorem d_x_why_0 : decode prog_1_method_8_code 0 = .ok (.aload_n 0, 1) := by decide +kernel
theorem d_x_why_1 : decode prog_1_method_8_code 1 = .ok (.getfield 48, 3) := by decide +kernel
theorem d_x_why_4 : decode prog_1_method_8_code 4 = .ok (.ireturn, 1) := by decide +kernel
theorem d_c_init_0 : decode prog_2_method_1_code 0 = .ok (.aload_n 0, 1) := by decide +kernel
theorem d_c_init_1 : decode prog_2_method_1_code 1 = .ok (.invokespecial 3, 3) := by decide +kernel
theorem d_c_init_4 : decode prog_2_method_1_code 4 = .ok (.aload_n 0, 1) := by decide +kernel
theorem d_c_init_5 : decode prog_2_method_1_code 5 = .ok (.bipush 50, 2) := by decide +kernel
theorem d_c_init_7 : decode prog_2_method_1_code 7 = .ok (.newarray .int, 2) := by decide +kernel
theorem d_c_init_9 : decode prog_2_method_1_code 9 = .ok (.putfield 9, 3) := by decide +kernel
theorem d_c_init_12 : decode prog_2_method_1_code 12 = .ok (.aload_n 0, 1) := by decide +kernel
theorem d_c_init_13 : decode prog_2_method_1_code 13 = .ok (.bipush 50, 2) := by decide +kernel
theorem d_c_init_15 : decode prog_2_method_1_code 15 = .ok (.newarray .int, 2) := by decide +kernel
theorem d_c_init_17 : decode prog_2_method_1_code 17 = .ok (.putfield 15, 3) := by decide +kernel
theorem d_c_init_20 : decode prog_2_method_1_code 20 = .ok (.aload_n 0, 1) := by decide +kernel
theorem d_c_init_21 : decode prog_2_method_1_code 21 = .ok (.bipush 50, 2) := by decide +kernel
theorem d_c_init_23 : decode prog_2_method_1_code 23 = .ok (.newarray .int, 2) := by decide +kernel
theorem d_c_init_25 : decode prog_2_method_1_code 25 = .ok (.putfield 18, 3) := by decide +kernel
theorem d_c_init_28 : decode prog_2_method_1_code 28 = .ok (.aload_n 0, 1) := by decide +kernel
theorem d_c_init_29 : decode prog_2_method_1_code 29 = .ok (.bipush 50, 2) := by decide +kernel
theorem d_c_init_31 : decode prog_2_method_1_code 31 = .ok (.newarray .int, 2) := by decide +kernel
theorem d_c_init_33 : decode prog_2_method_1_code 33 = .ok (.putfield 21, 3) := by decide +kernel
theorem d_c_init_36 : decode prog_2_method_1_code 36 = .ok (.aload_n 0, 1) := by decide +kernel
theorem d_c_init_37 : decode prog_2_method_1_code 37 = .ok (.bipush 50, 2) := by decide +kernel
theorem d_c_init_39 : decode prog_2_method_1_code 39 = .ok (.newarray .int, 2) := by decide +kernel
theorem d_c_init_41 : decode prog_2_method_1_code 41 = .ok (.putfield 24, 3) := by decide +kernel
theorem d_c_init_44 : decode prog_2_method_1_code 44 = .ok (.aload_n 0, 1) := by decide +kernel
theorem d_c_init_45 : decode prog_2_method_1_code 45 = .ok (.iconst 0, 1) := by decide +kernel
theorem d_c_init_46 : decode prog_2_method_1_code 46 = .ok (.putfield 27, 3) := by decide +kernel
theorem d_c_init_49 : decode prog_2_method_1_code 49 = .ok (.return_, 1) := by decide +kernel
theorem d_c_has_0 : decode prog_2_method_2_code 0 = .ok (.iload_n 1, 1) := by decide +kernel
theorem d_c_has_1 : decode prog_2_method_2_code 1 = .ok (.ifCond .lt 15, 3) := by decide +kernel
theorem d_c_has_4 : decode prog_2_method_2_code 4 = .ok (.iload_n 1, 1) := by decide +kernel
theorem d_c_has_5 : decode prog_2_method_2_code 5 = .ok (.aload_n 0, 1) := by decide +kernel
theorem d_c_has_6 : decode prog_2_method_2_code 6 = .ok (.getfield 27, 3) := by decide +kernel
theorem d_c_has_9 : decode prog_2_method_2_code 9 = .ok (.if_icmp .ge 7, 3) := by decide +kernel
theorem d_c_has_16 : decode prog_2_method_2_code 16 = .ok (.iconst 0, 1) := by decide +kernel
theorem d_c_has_17 : decode prog_2_method_2_code 17 = .ok (.ireturn, 1) := by decide +kernel
theorem d_l_init_0 : decode prog_3_method_1_code 0 = .ok (.aload_n 0, 1) := by decide +kernel
theorem d_l_init_1 : decode prog_3_method_1_code 1 = .ok (.invokespecial 3, 3) := by decide +kernel
theorem d_l_init_4 : decode prog_3_method_1_code 4 = .ok (.aload_n 0, 1) := by decide +kernel
theorem d_l_init_5 : decode prog_3_method_1_code 5 = .ok (.bipush 100, 2) := by decide +kernel
theorem d_l_init_7 : decode prog_3_method_1_code 7 = .ok (.newarray .int, 2) := by decide +kernel
theorem d_l_init_9 : decode prog_3_method_1_code 9 = .ok (.putfield 9, 3) := by decide +kernel
theorem d_l_init_12 : decode prog_3_method_1_code 12 = .ok (.aload_n 0, 1) := by decide +kernel
theorem d_l_init_13 : decode prog_3_method_1_code 13 = .ok (.bipush 100, 2) := by decide +kernel
theorem d_l_init_15 : decode prog_3_method_1_code 15 = .ok (.newarray .int, 2) := by decide +kernel
theorem d_l_init_17 : decode prog_3_method_1_code 17 = .ok (.putfield 15, 3) := by decide +kernel
theorem d_l_init_20 : decode prog_3_method_1_code 20 = .ok (.aload_n 0, 1) := by decide +kernel
theorem d_l_init_21 : decode prog_3_method_1_code 21 = .ok (.bipush 100, 2) := by decide +kernel
theorem d_l_init_23 : decode prog_3_method_1_code 23 = .ok (.newarray .int, 2) := by decide +kernel
theorem d_l_init_25 : decode prog_3_method_1_code 25 = .ok (.putfield 18, 3) := by decide +kernel
theorem d_l_init_28 : decode prog_3_method_1_code 28 = .ok (.aload_n 0, 1) := by decide +kernel
theorem d_l_init_29 : decode prog_3_method_1_code 29 = .ok (.bipush 100, 2) := by decide +kernel
theorem d_l_init_31 : decode prog_3_method_1_code 31 = .ok (.newarray .int, 2) := by decide +kernel
theorem d_l_init_33 : decode prog_3_method_1_code 33 = .ok (.putfield 21, 3) := by decide +kernel
theorem d_l_init_36 : decode prog_3_method_1_code 36 = .ok (.aload_n 0, 1) := by decide +kernel
theorem d_l_init_37 : decode prog_3_method_1_code 37 = .ok (.iconst 0, 1) := by decide +kernel
theorem d_l_init_38 : decode prog_3_method_1_code 38 = .ok (.putfield 24, 3) := by decide +kernel
theorem d_l_init_41 : decode prog_3_method_1_code 41 = .ok (.return_, 1) := by decide +kernel
theorem d_q_init_0 : decode prog_4_method_1_code 0 = .ok (.aload_n 0, 1) := by decide +kernel
theorem d_q_init_1 : decode prog_4_method_1_code 1 = .ok (.invokespecial 3, 3) := by decide +kernel
theorem d_q_init_4 : decode prog_4_method_1_code 4 = .ok (.aload_n 0, 1) := by decide +kernel
theorem d_q_init_5 : decode prog_4_method_1_code 5 = .ok (.sipush 300, 3) := by decide +kernel
theorem d_q_init_8 : decode prog_4_method_1_code 8 = .ok (.newarray .int, 2) := by decide +kernel
theorem d_q_init_10 : decode prog_4_method_1_code 10 = .ok (.putfield 9, 3) := by decide +kernel
theorem d_q_init_13 : decode prog_4_method_1_code 13 = .ok (.aload_n 0, 1) := by decide +kernel
theorem d_q_init_14 : decode prog_4_method_1_code 14 = .ok (.sipush 300, 3) := by decide +kernel
theorem d_q_init_17 : decode prog_4_method_1_code 17 = .ok (.newarray .int, 2) := by decide +kernel
theorem d_q_init_19 : decode prog_4_method_1_code 19 = .ok (.putfield 15, 3) := by decide +kernel
theorem d_q_init_22 : decode prog_4_method_1_code 22 = .ok (.aload_n 0, 1) := by decide +kernel
theorem d_q_init_23 : decode prog_4_method_1_code 23 = .ok (.sipush 300, 3) := by decide +kernel
theorem d_q_init_26 : decode prog_4_method_1_code 26 = .ok (.newarray .int, 2) := by decide +kernel
theorem d_q_init_28 : decode prog_4_method_1_code 28 = .ok (.putfield 18, 3) := by decide +kernel
theorem d_q_init_31 : decode prog_4_method_1_code 31 = .ok (.aload_n 0, 1) := by decide +kernel
theorem d_q_init_32 : decode prog_4_method_1_code 32 = .ok (.sipush 300, 3) := by decide +kernel
theorem d_q_init_35 : decode prog_4_method_1_code 35 = .ok (.newarray .int, 2) := by decide +kernel
theorem d_q_init_37 : decode prog_4_method_1_code 37 = .ok (.putfield 21, 3) := by decide +kernel
theorem d_q_init_40 : decode prog_4_method_1_code 40 = .ok (.aload_n 0, 1) := by decide +kernel
theorem d_q_init_41 : decode prog_4_method_1_code 41 = .ok (.sipush 300, 3) := by decide +kernel
theorem d_q_init_44 : decode prog_4_method_1_code 44 = .ok (.newarray .int, 2) := by decide +kernel
theorem d_q_init_46 : decode prog_4_method_1_code 46 = .ok (.putfield 24, 3) := by decide +kernel
theorem d_q_init_49 : decode prog_4_method_1_code 49 = .ok (.aload_n 0, 1) := by decide +kernel
theorem d_q_init_50 : decode prog_4_method_1_code 50 = .ok (.sipush 300, 3) := by decide +kernel
theorem d_q_init_53 : decode prog_4_method_1_code 53 = .ok (.newarray .int, 2) := by decide +kernel
theorem d_q_init_55 : decode prog_4_method_1_code 55 = .ok (.putfield 27, 3) := by decide +kernel
theorem d_q_init_58 : decode prog_4_method_1_code 58 = .ok (.aload_n 0, 1) := by decide +kernel
theorem d_q_init_59 : decode prog_4_method_1_code 59 = .ok (.sipush 300, 3) := by decide +kernel
theorem d_q_init_62 : decode prog_4_method_1_code 62 = .ok (.newarray .int, 2) := by decide +kernel
theorem d_q_init_64 : decode prog_4_method_1_code 64 = .ok (.putfield 30, 3) := by decide +kernel
theorem d_q_init_67 : decode prog_4_method_1_code 67 = .ok (.aload_n 0, 1) := by decide +kernel
theorem d_q_init_68 : decode prog_4_method_1_code 68 = .ok (.sipush 300, 3) := by decide +kernel
theorem d_q_init_71 : decode prog_4_method_1_code 71 = .ok (.newarray .int, 2) := by decide +kernel
theorem d_q_init_73 : decode prog_4_method_1_code 73 = .ok (.putfield 33, 3) := by decide +kernel
theorem d_q_init_76 : decode prog_4_method_1_code 76 = .ok (.aload_n 0, 1) := by decide +kernel
theorem d_q_init_77 : decode prog_4_method_1_code 77 = .ok (.sipush 300, 3) := by decide +kernel
theorem d_q_init_80 : decode prog_4_method_1_code 80 = .ok (.newarray .int, 2) := by decide +kernel
theorem d_q_init_82 : decode prog_4_method_1_code 82 = .ok (.putfield 36, 3) := by decide +kernel
theorem d_q_init_85 : decode prog_4_method_1_code 85 = .ok (.aload_n 0, 1) := by decide +kernel
theorem d_q_init_86 : decode prog_4_method_1_code 86 = .ok (.sipush 300, 3) := by decide +kernel
theorem d_q_init_89 : decode prog_4_method_1_code 89 = .ok (.newarray .int, 2) := by decide +kernel
theorem d_q_init_91 : decode prog_4_method_1_code 91 = .ok (.putfield 39, 3) := by decide +kernel
theorem d_q_init_94 : decode prog_4_method_1_code 94 = .ok (.aload_n 0, 1) := by decide +kernel
theorem d_q_init_95 : decode prog_4_method_1_code 95 = .ok (.sipush 300, 3) := by decide +kernel
theorem d_q_init_98 : decode prog_4_method_1_code 98 = .ok (.newarray .int, 2) := by decide +kernel
theorem d_q_init_100 : decode prog_4_method_1_code 100 = .ok (.putfield 42, 3) := by decide +kernel
theorem d_q_init_103 : decode prog_4_method_1_code 103 = .ok (.aload_n 0, 1) := by decide +kernel
theorem d_q_init_104 : decode prog_4_method_1_code 104 = .ok (.sipush 300, 3) := by decide +kernel
theorem d_q_init_107 : decode prog_4_method_1_code 107 = .ok (.newarray .int, 2) := by decide +kernel
theorem d_q_init_109 : decode prog_4_method_1_code 109 = .ok (.putfield 45, 3) := by decide +kernel
theorem d_q_init_112 : decode prog_4_method_1_code 112 = .ok (.aload_n 0, 1) := by decide +kernel
theorem d_q_init_113 : decode prog_4_method_1_code 113 = .ok (.iconst 0, 1) := by decide +kernel
theorem d_q_init_114 : decode prog_4_method_1_code 114 = .ok (.putfield 48, 3) := by decide +kernel
theorem d_q_init_117 : decode prog_4_method_1_code 117 = .ok (.return_, 1) := by decide +kernel
theorem d_q_centsOf_0 : decode prog_4_method_17_code 0 = .ok (.iconst 0, 1) := by decide +kernel
theorem d_q_centsOf_1 : decode prog_4_method_17_code 1 = .ok (.istore_n 2, 1) := by decide +kernel
theorem d_q_centsOf_2 : decode prog_4_method_17_code 2 = .ok (.iconst 0, 1) := by decide +kernel
theorem d_q_centsOf_3 : decode prog_4_method_17_code 3 = .ok (.istore_n 3, 1) := by decide +kernel
theorem d_q_centsOf_4 : decode prog_4_method_17_code 4 = .ok (.iload_n 3, 1) := by decide +kernel
theorem d_q_centsOf_5 : decode prog_4_method_17_code 5 = .ok (.aload_n 0, 1) := by decide +kernel
theorem d_q_centsOf_6 : decode prog_4_method_17_code 6 = .ok (.getfield 48, 3) := by decide +kernel
theorem d_q_centsOf_9 : decode prog_4_method_17_code 9 = .ok (.if_icmp .ge 28, 3) := by decide +kernel
theorem d_q_centsOf_37 : decode prog_4_method_17_code 37 = .ok (.iload_n 2, 1) := by decide +kernel
theorem d_q_centsOf_38 : decode prog_4_method_17_code 38 = .ok (.ireturn, 1) := by decide +kernel
theorem d_q_countOf_0 : decode prog_4_method_14_code 0 = .ok (.iconst 0, 1) := by decide +kernel
theorem d_q_countOf_1 : decode prog_4_method_14_code 1 = .ok (.istore_n 2, 1) := by decide +kernel
theorem d_q_countOf_2 : decode prog_4_method_14_code 2 = .ok (.iconst 0, 1) := by decide +kernel
theorem d_q_countOf_3 : decode prog_4_method_14_code 3 = .ok (.istore_n 3, 1) := by decide +kernel
theorem d_q_countOf_4 : decode prog_4_method_14_code 4 = .ok (.iload_n 3, 1) := by decide +kernel
theorem d_q_countOf_5 : decode prog_4_method_14_code 5 = .ok (.aload_n 0, 1) := by decide +kernel
theorem d_q_countOf_6 : decode prog_4_method_14_code 6 = .ok (.getfield 48, 3) := by decide +kernel
theorem d_q_countOf_9 : decode prog_4_method_14_code 9 = .ok (.if_icmp .ge 22, 3) := by decide +kernel
theorem d_q_countOf_31 : decode prog_4_method_14_code 31 = .ok (.iload_n 2, 1) := by decide +kernel
theorem d_q_countOf_32 : decode prog_4_method_14_code 32 = .ok (.ireturn, 1) := by decide +kernel
theorem d_q_countRefusedOf_0 : decode prog_4_method_15_code 0 = .ok (.iconst 0, 1) := by decide +kernel
theorem d_q_countRefusedOf_1 : decode prog_4_method_15_code 1 = .ok (.istore_n 2, 1) := by decide +kernel
theorem d_q_countRefusedOf_2 : decode prog_4_method_15_code 2 = .ok (.iconst 0, 1) := by decide +kernel
theorem d_q_countRefusedOf_3 : decode prog_4_method_15_code 3 = .ok (.istore_n 3, 1) := by decide +kernel
theorem d_q_countRefusedOf_4 : decode prog_4_method_15_code 4 = .ok (.iload_n 3, 1) := by decide +kernel
theorem d_q_countRefusedOf_5 : decode prog_4_method_15_code 5 = .ok (.aload_n 0, 1) := by decide +kernel
theorem d_q_countRefusedOf_6 : decode prog_4_method_15_code 6 = .ok (.getfield 48, 3) := by decide +kernel
theorem d_q_countRefusedOf_9 : decode prog_4_method_15_code 9 = .ok (.if_icmp .ge 30, 3) := by decide +kernel
theorem d_q_countRefusedOf_39 : decode prog_4_method_15_code 39 = .ok (.iload_n 2, 1) := by decide +kernel
theorem d_q_countRefusedOf_40 : decode prog_4_method_15_code 40 = .ok (.ireturn, 1) := by decide +kernel
theorem d_q_endedAt_0 : decode prog_4_method_13_code 0 = .ok (.iconst 0, 1) := by decide +kernel
theorem d_q_endedAt_1 : decode prog_4_method_13_code 1 = .ok (.istore_n 3, 1) := by decide +kernel
theorem d_q_endedAt_2 : decode prog_4_method_13_code 2 = .ok (.iconst 0, 1) := by decide +kernel
theorem d_q_endedAt_3 : decode prog_4_method_13_code 3 = .ok (.istore 4, 2) := by decide +kernel
theorem d_q_endedAt_5 : decode prog_4_method_13_code 5 = .ok (.iload 4, 2) := by decide +kernel
theorem d_q_endedAt_7 : decode prog_4_method_13_code 7 = .ok (.aload_n 0, 1) := by decide +kernel
theorem d_q_endedAt_8 : decode prog_4_method_13_code 8 = .ok (.getfield 48, 3) := by decide +kernel
theorem d_q_endedAt_11 : decode prog_4_method_13_code 11 = .ok (.if_icmp .ge 39, 3) := by decide +kernel
theorem d_q_endedAt_50 : decode prog_4_method_13_code 50 = .ok (.iconst (-1), 1) := by decide +kernel
theorem d_q_endedAt_51 : decode prog_4_method_13_code 51 = .ok (.ireturn, 1) := by decide +kernel
theorem d_q_has_0 : decode prog_4_method_2_code 0 = .ok (.iload_n 1, 1) := by decide +kernel
theorem d_q_has_1 : decode prog_4_method_2_code 1 = .ok (.ifCond .lt 15, 3) := by decide +kernel
theorem d_q_has_4 : decode prog_4_method_2_code 4 = .ok (.iload_n 1, 1) := by decide +kernel
theorem d_q_has_5 : decode prog_4_method_2_code 5 = .ok (.aload_n 0, 1) := by decide +kernel
theorem d_q_has_6 : decode prog_4_method_2_code 6 = .ok (.getfield 48, 3) := by decide +kernel
theorem d_q_has_9 : decode prog_4_method_2_code 9 = .ok (.if_icmp .ge 7, 3) := by decide +kernel
theorem d_q_has_16 : decode prog_4_method_2_code 16 = .ok (.iconst 0, 1) := by decide +kernel
theorem d_q_has_17 : decode prog_4_method_2_code 17 = .ok (.ireturn, 1) := by decide +kernel
theorem d_q_pagesAllowedTo_0 : decode prog_4_method_16_code 0 = .ok (.iconst 0, 1) := by decide +kernel
theorem d_q_pagesAllowedTo_1 : decode prog_4_method_16_code 1 = .ok (.istore_n 2, 1) := by decide +kernel
theorem d_q_pagesAllowedTo_2 : decode prog_4_method_16_code 2 = .ok (.iconst 0, 1) := by decide +kernel
theorem d_q_pagesAllowedTo_3 : decode prog_4_method_16_code 3 = .ok (.istore_n 3, 1) := by decide +kernel
theorem d_q_pagesAllowedTo_4 : decode prog_4_method_16_code 4 = .ok (.iload_n 3, 1) := by decide +kernel
theorem d_q_pagesAllowedTo_5 : decode prog_4_method_16_code 5 = .ok (.aload_n 0, 1) := by decide +kernel
theorem d_q_pagesAllowedTo_6 : decode prog_4_method_16_code 6 = .ok (.getfield 48, 3) := by decide +kernel
theorem d_q_pagesAllowedTo_9 : decode prog_4_method_16_code 9 = .ok (.if_icmp .ge 36, 3) := by decide +kernel
theorem d_q_pagesAllowedTo_45 : decode prog_4_method_16_code 45 = .ok (.iload_n 2, 1) := by decide +kernel
theorem d_q_pagesAllowedTo_46 : decode prog_4_method_16_code 46 = .ok (.ireturn, 1) := by decide +kernel
theorem d_t_init_0 : decode prog_5_method_1_code 0 = .ok (.aload_n 0, 1) := by decide +kernel
theorem d_t_init_1 : decode prog_5_method_1_code 1 = .ok (.invokespecial 3, 3) := by decide +kernel
theorem d_t_init_4 : decode prog_5_method_1_code 4 = .ok (.aload_n 0, 1) := by decide +kernel
theorem d_t_init_5 : decode prog_5_method_1_code 5 = .ok (.bipush 50, 2) := by decide +kernel
theorem d_t_init_7 : decode prog_5_method_1_code 7 = .ok (.newarray .int, 2) := by decide +kernel
theorem d_t_init_9 : decode prog_5_method_1_code 9 = .ok (.putfield 9, 3) := by decide +kernel
theorem d_t_init_12 : decode prog_5_method_1_code 12 = .ok (.aload_n 0, 1) := by decide +kernel
theorem d_t_init_13 : decode prog_5_method_1_code 13 = .ok (.bipush 50, 2) := by decide +kernel
theorem d_t_init_15 : decode prog_5_method_1_code 15 = .ok (.newarray .boolean, 2) := by decide +kernel
theorem d_t_init_17 : decode prog_5_method_1_code 17 = .ok (.putfield 15, 3) := by decide +kernel
theorem d_t_init_20 : decode prog_5_method_1_code 20 = .ok (.aload_n 0, 1) := by decide +kernel
theorem d_t_init_21 : decode prog_5_method_1_code 21 = .ok (.bipush 50, 2) := by decide +kernel
theorem d_t_init_23 : decode prog_5_method_1_code 23 = .ok (.newarray .int, 2) := by decide +kernel
theorem d_t_init_25 : decode prog_5_method_1_code 25 = .ok (.putfield 19, 3) := by decide +kernel
theorem d_t_init_28 : decode prog_5_method_1_code 28 = .ok (.aload_n 0, 1) := by decide +kernel
theorem d_t_init_29 : decode prog_5_method_1_code 29 = .ok (.bipush 50, 2) := by decide +kernel
theorem d_t_init_31 : decode prog_5_method_1_code 31 = .ok (.newarray .int, 2) := by decide +kernel
theorem d_t_init_33 : decode prog_5_method_1_code 33 = .ok (.putfield 22, 3) := by decide +kernel
theorem d_t_init_36 : decode prog_5_method_1_code 36 = .ok (.aload_n 0, 1) := by decide +kernel
theorem d_t_init_37 : decode prog_5_method_1_code 37 = .ok (.iconst 0, 1) := by decide +kernel
theorem d_t_init_38 : decode prog_5_method_1_code 38 = .ok (.putfield 25, 3) := by decide +kernel
theorem d_t_init_41 : decode prog_5_method_1_code 41 = .ok (.return_, 1) := by decide +kernel
theorem d_t_add_0 : decode prog_5_method_3_code 0 = .ok (.aload_n 0, 1) := by decide +kernel
theorem d_t_add_1 : decode prog_5_method_3_code 1 = .ok (.getfield 25, 3) := by decide +kernel
theorem d_t_add_4 : decode prog_5_method_3_code 4 = .ok (.bipush 50, 2) := by decide +kernel
theorem d_t_add_6 : decode prog_5_method_3_code 6 = .ok (.if_icmp .lt 6, 3) := by decide +kernel
theorem d_t_add_12 : decode prog_5_method_3_code 12 = .ok (.aload_n 0, 1) := by decide +kernel
theorem d_t_add_13 : decode prog_5_method_3_code 13 = .ok (.getfield 9, 3) := by decide +kernel
theorem d_t_add_16 : decode prog_5_method_3_code 16 = .ok (.aload_n 0, 1) := by decide +kernel
theorem d_t_add_17 : decode prog_5_method_3_code 17 = .ok (.getfield 25, 3) := by decide +kernel
theorem d_t_add_20 : decode prog_5_method_3_code 20 = .ok (.iload_n 1, 1) := by decide +kernel
theorem d_t_add_21 : decode prog_5_method_3_code 21 = .ok (.iastore, 1) := by decide +kernel
theorem d_t_add_22 : decode prog_5_method_3_code 22 = .ok (.aload_n 0, 1) := by decide +kernel
theorem d_t_add_23 : decode prog_5_method_3_code 23 = .ok (.dup, 1) := by decide +kernel
theorem d_t_add_24 : decode prog_5_method_3_code 24 = .ok (.getfield 25, 3) := by decide +kernel
theorem d_t_add_27 : decode prog_5_method_3_code 27 = .ok (.iconst 1, 1) := by decide +kernel
theorem d_t_add_28 : decode prog_5_method_3_code 28 = .ok (.iadd, 1) := by decide +kernel
theorem d_t_add_29 : decode prog_5_method_3_code 29 = .ok (.putfield 25, 3) := by decide +kernel
theorem d_t_add_32 : decode prog_5_method_3_code 32 = .ok (.aload_n 0, 1) := by decide +kernel
theorem d_t_add_33 : decode prog_5_method_3_code 33 = .ok (.getfield 25, 3) := by decide +kernel
theorem d_t_add_36 : decode prog_5_method_3_code 36 = .ok (.iconst 1, 1) := by decide +kernel
theorem d_t_add_37 : decode prog_5_method_3_code 37 = .ok (.isub, 1) := by decide +kernel
theorem d_t_add_38 : decode prog_5_method_3_code 38 = .ok (.ireturn, 1) := by decide +kernel
theorem d_t_has_0 : decode prog_5_method_2_code 0 = .ok (.iload_n 1, 1) := by decide +kernel
theorem d_t_has_1 : decode prog_5_method_2_code 1 = .ok (.ifCond .lt 15, 3) := by decide +kernel
theorem d_t_has_4 : decode prog_5_method_2_code 4 = .ok (.iload_n 1, 1) := by decide +kernel
theorem d_t_has_5 : decode prog_5_method_2_code 5 = .ok (.aload_n 0, 1) := by decide +kernel
theorem d_t_has_6 : decode prog_5_method_2_code 6 = .ok (.getfield 25, 3) := by decide +kernel
theorem d_t_has_9 : decode prog_5_method_2_code 9 = .ok (.if_icmp .ge 7, 3) := by decide +kernel
theorem d_t_has_16 : decode prog_5_method_2_code 16 = .ok (.iconst 0, 1) := by decide +kernel
theorem d_t_has_17 : decode prog_5_method_2_code 17 = .ok (.ireturn, 1) := by decide +kernel
theorem d_w_past_0 : decode method_4_code 0 = .ok (.aload_n 3, 1) := by decide +kernel
theorem d_w_past_1 : decode method_4_code 1 = .ok (.iconst 0, 1) := by decide +kernel
theorem d_w_past_2 : decode method_4_code 2 = .ok (.aload_n 0, 1) := by decide +kernel
theorem d_w_past_3 : decode method_4_code 3 = .ok (.iload_n 1, 1) := by decide +kernel
theorem d_w_past_4 : decode method_4_code 4 = .ok (.iload_n 2, 1) := by decide +kernel
theorem d_w_past_5 : decode method_4_code 5 = .ok (.invokevirtual 15, 3) := by decide +kernel
theorem d_w_past_13 : decode method_4_code 13 = .ok (.astore 4, 2) := by decide +kernel
theorem d_w_past_15 : decode method_4_code 15 = .ok (.iconst 1, 1) := by decide +kernel
theorem d_w_past_16 : decode method_4_code 16 = .ok (.ireturn, 1) := by decide +kernel
theorem d_w_request_0 : decode method_3_code 0 = .ok (.aload_n 3, 1) := by decide +kernel
theorem d_w_request_1 : decode method_3_code 1 = .ok (.iconst 0, 1) := by decide +kernel
theorem d_w_request_2 : decode method_3_code 2 = .ok (.aload_n 0, 1) := by decide +kernel
theorem d_w_request_3 : decode method_3_code 3 = .ok (.iload_n 1, 1) := by decide +kernel
theorem d_w_request_4 : decode method_3_code 4 = .ok (.iload_n 2, 1) := by decide +kernel
theorem d_w_request_5 : decode method_3_code 5 = .ok (.invokevirtual 7, 3) := by decide +kernel
theorem d_w_request_13 : decode method_3_code 13 = .ok (.astore 4, 2) := by decide +kernel
theorem d_w_request_15 : decode method_3_code 15 = .ok (.iconst 1, 1) := by decide +kernel
theorem d_w_request_16 : decode method_3_code 16 = .ok (.ireturn, 1) := by decide +kernel
theorem d_m_init_0 : decode prog_7_method_1_code 0 = .ok (.aload_n 0, 1) := by decide +kernel
theorem d_m_init_1 : decode prog_7_method_1_code 1 = .ok (.invokespecial 1, 3) := by decide +kernel
theorem d_m_init_4 : decode prog_7_method_1_code 4 = .ok (.aload_n 0, 1) := by decide +kernel
theorem d_m_init_5 : decode prog_7_method_1_code 5 = .ok (.bipush 50, 2) := by decide +kernel
theorem d_m_init_7 : decode prog_7_method_1_code 7 = .ok (.newarray .int, 2) := by decide +kernel
theorem d_m_init_9 : decode prog_7_method_1_code 9 = .ok (.putfield 7, 3) := by decide +kernel
theorem d_m_init_12 : decode prog_7_method_1_code 12 = .ok (.aload_n 0, 1) := by decide +kernel
theorem d_m_init_13 : decode prog_7_method_1_code 13 = .ok (.bipush 50, 2) := by decide +kernel
theorem d_m_init_15 : decode prog_7_method_1_code 15 = .ok (.newarray .boolean, 2) := by decide +kernel
theorem d_m_init_17 : decode prog_7_method_1_code 17 = .ok (.putfield 13, 3) := by decide +kernel
theorem d_m_init_20 : decode prog_7_method_1_code 20 = .ok (.aload_n 0, 1) := by decide +kernel
theorem d_m_init_21 : decode prog_7_method_1_code 21 = .ok (.bipush 50, 2) := by decide +kernel
theorem d_m_init_23 : decode prog_7_method_1_code 23 = .ok (.newarray .int, 2) := by decide +kernel
theorem d_m_init_25 : decode prog_7_method_1_code 25 = .ok (.putfield 17, 3) := by decide +kernel
theorem d_m_init_28 : decode prog_7_method_1_code 28 = .ok (.aload_n 0, 1) := by decide +kernel
theorem d_m_init_29 : decode prog_7_method_1_code 29 = .ok (.bipush 50, 2) := by decide +kernel
theorem d_m_init_31 : decode prog_7_method_1_code 31 = .ok (.newarray .int, 2) := by decide +kernel
theorem d_m_init_33 : decode prog_7_method_1_code 33 = .ok (.putfield 20, 3) := by decide +kernel
theorem d_m_init_36 : decode prog_7_method_1_code 36 = .ok (.aload_n 0, 1) := by decide +kernel
theorem d_m_init_37 : decode prog_7_method_1_code 37 = .ok (.bipush 100, 2) := by decide +kernel
theorem d_m_init_39 : decode prog_7_method_1_code 39 = .ok (.newarray .int, 2) := by decide +kernel
theorem d_m_init_41 : decode prog_7_method_1_code 41 = .ok (.putfield 23, 3) := by decide +kernel
theorem d_m_init_44 : decode prog_7_method_1_code 44 = .ok (.aload_n 0, 1) := by decide +kernel
theorem d_m_init_45 : decode prog_7_method_1_code 45 = .ok (.sipush 1000, 3) := by decide +kernel
theorem d_m_init_48 : decode prog_7_method_1_code 48 = .ok (.newarray .boolean, 2) := by decide +kernel
theorem d_m_init_50 : decode prog_7_method_1_code 50 = .ok (.putfield 26, 3) := by decide +kernel
theorem d_m_init_53 : decode prog_7_method_1_code 53 = .ok (.aload_n 0, 1) := by decide +kernel
theorem d_m_init_54 : decode prog_7_method_1_code 54 = .ok (.bipush 100, 2) := by decide +kernel
theorem d_m_init_56 : decode prog_7_method_1_code 56 = .ok (.newarray .int, 2) := by decide +kernel
theorem d_m_init_58 : decode prog_7_method_1_code 58 = .ok (.putfield 29, 3) := by decide +kernel
theorem d_m_init_61 : decode prog_7_method_1_code 61 = .ok (.aload_n 0, 1) := by decide +kernel
theorem d_m_init_62 : decode prog_7_method_1_code 62 = .ok (.bipush 100, 2) := by decide +kernel
theorem d_m_init_64 : decode prog_7_method_1_code 64 = .ok (.newarray .int, 2) := by decide +kernel
theorem d_m_init_66 : decode prog_7_method_1_code 66 = .ok (.putfield 32, 3) := by decide +kernel
theorem d_m_init_69 : decode prog_7_method_1_code 69 = .ok (.aload_n 0, 1) := by decide +kernel
theorem d_m_init_70 : decode prog_7_method_1_code 70 = .ok (.bipush 100, 2) := by decide +kernel
theorem d_m_init_72 : decode prog_7_method_1_code 72 = .ok (.newarray .int, 2) := by decide +kernel
theorem d_m_init_74 : decode prog_7_method_1_code 74 = .ok (.putfield 35, 3) := by decide +kernel
theorem d_m_init_77 : decode prog_7_method_1_code 77 = .ok (.aload_n 0, 1) := by decide +kernel
theorem d_m_init_78 : decode prog_7_method_1_code 78 = .ok (.bipush 100, 2) := by decide +kernel
theorem d_m_init_80 : decode prog_7_method_1_code 80 = .ok (.newarray .int, 2) := by decide +kernel
theorem d_m_init_82 : decode prog_7_method_1_code 82 = .ok (.putfield 38, 3) := by decide +kernel
theorem d_m_init_85 : decode prog_7_method_1_code 85 = .ok (.aload_n 0, 1) := by decide +kernel
theorem d_m_init_86 : decode prog_7_method_1_code 86 = .ok (.bipush 50, 2) := by decide +kernel
theorem d_m_init_88 : decode prog_7_method_1_code 88 = .ok (.newarray .int, 2) := by decide +kernel
theorem d_m_init_90 : decode prog_7_method_1_code 90 = .ok (.putfield 41, 3) := by decide +kernel
theorem d_m_init_93 : decode prog_7_method_1_code 93 = .ok (.aload_n 0, 1) := by decide +kernel
theorem d_m_init_94 : decode prog_7_method_1_code 94 = .ok (.bipush 50, 2) := by decide +kernel
theorem d_m_init_96 : decode prog_7_method_1_code 96 = .ok (.newarray .int, 2) := by decide +kernel
theorem d_m_init_98 : decode prog_7_method_1_code 98 = .ok (.putfield 44, 3) := by decide +kernel
theorem d_m_init_101 : decode prog_7_method_1_code 101 = .ok (.aload_n 0, 1) := by decide +kernel
theorem d_m_init_102 : decode prog_7_method_1_code 102 = .ok (.bipush 50, 2) := by decide +kernel
theorem d_m_init_104 : decode prog_7_method_1_code 104 = .ok (.newarray .int, 2) := by decide +kernel
theorem d_m_init_106 : decode prog_7_method_1_code 106 = .ok (.putfield 47, 3) := by decide +kernel
theorem d_m_init_109 : decode prog_7_method_1_code 109 = .ok (.aload_n 0, 1) := by decide +kernel
theorem d_m_init_110 : decode prog_7_method_1_code 110 = .ok (.bipush 50, 2) := by decide +kernel
theorem d_m_init_112 : decode prog_7_method_1_code 112 = .ok (.newarray .int, 2) := by decide +kernel
theorem d_m_init_114 : decode prog_7_method_1_code 114 = .ok (.putfield 50, 3) := by decide +kernel
theorem d_m_init_117 : decode prog_7_method_1_code 117 = .ok (.aload_n 0, 1) := by decide +kernel
theorem d_m_init_118 : decode prog_7_method_1_code 118 = .ok (.bipush 50, 2) := by decide +kernel
theorem d_m_init_120 : decode prog_7_method_1_code 120 = .ok (.newarray .int, 2) := by decide +kernel
theorem d_m_init_122 : decode prog_7_method_1_code 122 = .ok (.putfield 53, 3) := by decide +kernel
theorem d_m_init_125 : decode prog_7_method_1_code 125 = .ok (.aload_n 0, 1) := by decide +kernel
theorem d_m_init_126 : decode prog_7_method_1_code 126 = .ok (.sipush 300, 3) := by decide +kernel
theorem d_m_init_129 : decode prog_7_method_1_code 129 = .ok (.newarray .int, 2) := by decide +kernel
theorem d_m_init_131 : decode prog_7_method_1_code 131 = .ok (.putfield 56, 3) := by decide +kernel
theorem d_m_init_134 : decode prog_7_method_1_code 134 = .ok (.aload_n 0, 1) := by decide +kernel
theorem d_m_init_135 : decode prog_7_method_1_code 135 = .ok (.sipush 300, 3) := by decide +kernel
theorem d_m_init_138 : decode prog_7_method_1_code 138 = .ok (.newarray .int, 2) := by decide +kernel
theorem d_m_init_140 : decode prog_7_method_1_code 140 = .ok (.putfield 59, 3) := by decide +kernel
theorem d_m_init_143 : decode prog_7_method_1_code 143 = .ok (.aload_n 0, 1) := by decide +kernel
theorem d_m_init_144 : decode prog_7_method_1_code 144 = .ok (.sipush 300, 3) := by decide +kernel
theorem d_m_init_147 : decode prog_7_method_1_code 147 = .ok (.newarray .int, 2) := by decide +kernel
theorem d_m_init_149 : decode prog_7_method_1_code 149 = .ok (.putfield 62, 3) := by decide +kernel
theorem d_m_init_152 : decode prog_7_method_1_code 152 = .ok (.aload_n 0, 1) := by decide +kernel
theorem d_m_init_153 : decode prog_7_method_1_code 153 = .ok (.sipush 300, 3) := by decide +kernel
theorem d_m_init_156 : decode prog_7_method_1_code 156 = .ok (.newarray .int, 2) := by decide +kernel
theorem d_m_init_158 : decode prog_7_method_1_code 158 = .ok (.putfield 65, 3) := by decide +kernel
theorem d_m_init_161 : decode prog_7_method_1_code 161 = .ok (.aload_n 0, 1) := by decide +kernel
theorem d_m_init_162 : decode prog_7_method_1_code 162 = .ok (.sipush 300, 3) := by decide +kernel
theorem d_m_init_165 : decode prog_7_method_1_code 165 = .ok (.newarray .int, 2) := by decide +kernel
theorem d_m_init_167 : decode prog_7_method_1_code 167 = .ok (.putfield 68, 3) := by decide +kernel
theorem d_m_init_170 : decode prog_7_method_1_code 170 = .ok (.aload_n 0, 1) := by decide +kernel
theorem d_m_init_171 : decode prog_7_method_1_code 171 = .ok (.sipush 300, 3) := by decide +kernel
theorem d_m_init_174 : decode prog_7_method_1_code 174 = .ok (.newarray .int, 2) := by decide +kernel
theorem d_m_init_176 : decode prog_7_method_1_code 176 = .ok (.putfield 71, 3) := by decide +kernel
theorem d_m_init_179 : decode prog_7_method_1_code 179 = .ok (.aload_n 0, 1) := by decide +kernel
theorem d_m_init_180 : decode prog_7_method_1_code 180 = .ok (.sipush 300, 3) := by decide +kernel
theorem d_m_init_183 : decode prog_7_method_1_code 183 = .ok (.newarray .int, 2) := by decide +kernel
theorem d_m_init_185 : decode prog_7_method_1_code 185 = .ok (.putfield 74, 3) := by decide +kernel
theorem d_m_init_188 : decode prog_7_method_1_code 188 = .ok (.aload_n 0, 1) := by decide +kernel
theorem d_m_init_189 : decode prog_7_method_1_code 189 = .ok (.sipush 300, 3) := by decide +kernel
theorem d_m_init_192 : decode prog_7_method_1_code 192 = .ok (.newarray .int, 2) := by decide +kernel
theorem d_m_init_194 : decode prog_7_method_1_code 194 = .ok (.putfield 77, 3) := by decide +kernel
theorem d_m_init_197 : decode prog_7_method_1_code 197 = .ok (.aload_n 0, 1) := by decide +kernel
theorem d_m_init_198 : decode prog_7_method_1_code 198 = .ok (.sipush 300, 3) := by decide +kernel
theorem d_m_init_201 : decode prog_7_method_1_code 201 = .ok (.newarray .int, 2) := by decide +kernel
theorem d_m_init_203 : decode prog_7_method_1_code 203 = .ok (.putfield 80, 3) := by decide +kernel
theorem d_m_init_206 : decode prog_7_method_1_code 206 = .ok (.aload_n 0, 1) := by decide +kernel
theorem d_m_init_207 : decode prog_7_method_1_code 207 = .ok (.sipush 300, 3) := by decide +kernel
theorem d_m_init_210 : decode prog_7_method_1_code 210 = .ok (.newarray .int, 2) := by decide +kernel
theorem d_m_init_212 : decode prog_7_method_1_code 212 = .ok (.putfield 83, 3) := by decide +kernel
theorem d_m_init_215 : decode prog_7_method_1_code 215 = .ok (.aload_n 0, 1) := by decide +kernel
theorem d_m_init_216 : decode prog_7_method_1_code 216 = .ok (.sipush 300, 3) := by decide +kernel
theorem d_m_init_219 : decode prog_7_method_1_code 219 = .ok (.newarray .int, 2) := by decide +kernel
theorem d_m_init_221 : decode prog_7_method_1_code 221 = .ok (.putfield 86, 3) := by decide +kernel
theorem d_m_init_224 : decode prog_7_method_1_code 224 = .ok (.aload_n 0, 1) := by decide +kernel
theorem d_m_init_225 : decode prog_7_method_1_code 225 = .ok (.iconst (-1), 1) := by decide +kernel
theorem d_m_init_226 : decode prog_7_method_1_code 226 = .ok (.putfield 89, 3) := by decide +kernel
theorem d_m_init_229 : decode prog_7_method_1_code 229 = .ok (.return_, 1) := by decide +kernel
theorem d_m_ask_0 : decode prog_7_method_15_code 0 = .ok (.aload_n 0, 1) := by decide +kernel
theorem d_m_ask_1 : decode prog_7_method_15_code 1 = .ok (.iconst 0, 1) := by decide +kernel
theorem d_m_ask_2 : decode prog_7_method_15_code 2 = .ok (.putfield 93, 3) := by decide +kernel
theorem d_m_ask_5 : decode prog_7_method_15_code 5 = .ok (.aload_n 0, 1) := by decide +kernel
theorem d_m_ask_6 : decode prog_7_method_15_code 6 = .ok (.iload_n 2, 1) := by decide +kernel
theorem d_m_ask_7 : decode prog_7_method_15_code 7 = .ok (.invokevirtual 107, 3) := by decide +kernel
theorem d_m_ask_10 : decode prog_7_method_15_code 10 = .ok (.ifCond .ne 5, 3) := by decide +kernel
theorem d_m_ask_13 : decode prog_7_method_15_code 13 = .ok (.iconst (-1), 1) := by decide +kernel
theorem d_m_ask_14 : decode prog_7_method_15_code 14 = .ok (.ireturn, 1) := by decide +kernel
theorem d_m_counted_0 : decode prog_7_method_22_code 0 = .ok (.aload_n 0, 1) := by decide +kernel
theorem d_m_counted_1 : decode prog_7_method_22_code 1 = .ok (.iconst 0, 1) := by decide +kernel
theorem d_m_counted_2 : decode prog_7_method_22_code 2 = .ok (.putfield 93, 3) := by decide +kernel
theorem d_m_counted_5 : decode prog_7_method_22_code 5 = .ok (.aload_n 0, 1) := by decide +kernel
theorem d_m_counted_6 : decode prog_7_method_22_code 6 = .ok (.iload_n 1, 1) := by decide +kernel
theorem d_m_counted_7 : decode prog_7_method_22_code 7 = .ok (.invokevirtual 107, 3) := by decide +kernel
theorem d_m_counted_10 : decode prog_7_method_22_code 10 = .ok (.ifCond .ne 5, 3) := by decide +kernel
theorem d_m_counted_13 : decode prog_7_method_22_code 13 = .ok (.iconst (-1), 1) := by decide +kernel
theorem d_m_counted_14 : decode prog_7_method_22_code 14 = .ok (.ireturn, 1) := by decide +kernel
theorem d_m_delete_0 : decode prog_7_method_21_code 0 = .ok (.aload_n 0, 1) := by decide +kernel
theorem d_m_delete_1 : decode prog_7_method_21_code 1 = .ok (.iconst 0, 1) := by decide +kernel
theorem d_m_delete_2 : decode prog_7_method_21_code 2 = .ok (.putfield 93, 3) := by decide +kernel
theorem d_m_delete_5 : decode prog_7_method_21_code 5 = .ok (.iload_n 1, 1) := by decide +kernel
theorem d_m_delete_6 : decode prog_7_method_21_code 6 = .ok (.iconst 0, 1) := by decide +kernel
theorem d_m_delete_7 : decode prog_7_method_21_code 7 = .ok (.aload_n 0, 1) := by decide +kernel
theorem d_m_delete_8 : decode prog_7_method_21_code 8 = .ok (.getfield 117, 3) := by decide +kernel
theorem d_m_delete_11 : decode prog_7_method_21_code 11 = .ok (.iconst 1, 1) := by decide +kernel
theorem d_m_delete_12 : decode prog_7_method_21_code 12 = .ok (.isub, 1) := by decide +kernel
theorem d_m_delete_13 : decode prog_7_method_21_code 13 = .ok (.invokestatic 99, 3) := by decide +kernel
theorem d_m_delete_16 : decode prog_7_method_21_code 16 = .ok (.ifCond .ne 5, 3) := by decide +kernel
theorem d_m_delete_19 : decode prog_7_method_21_code 19 = .ok (.iconst (-1), 1) := by decide +kernel
theorem d_m_delete_20 : decode prog_7_method_21_code 20 = .ok (.ireturn, 1) := by decide +kernel
theorem d_m_fee_0 : decode prog_7_method_10_code 0 = .ok (.aload_n 0, 1) := by decide +kernel
theorem d_m_fee_1 : decode prog_7_method_10_code 1 = .ok (.iconst 0, 1) := by decide +kernel
theorem d_m_fee_2 : decode prog_7_method_10_code 2 = .ok (.putfield 93, 3) := by decide +kernel
theorem d_m_fee_5 : decode prog_7_method_10_code 5 = .ok (.iload_n 1, 1) := by decide +kernel
theorem d_m_fee_6 : decode prog_7_method_10_code 6 = .ok (.iconst 0, 1) := by decide +kernel
theorem d_m_fee_7 : decode prog_7_method_10_code 7 = .ok (.bipush 99, 2) := by decide +kernel
theorem d_m_fee_9 : decode prog_7_method_10_code 9 = .ok (.invokestatic 99, 3) := by decide +kernel
theorem d_m_fee_12 : decode prog_7_method_10_code 12 = .ok (.ifCond .eq 14, 3) := by decide +kernel
theorem d_m_fee_15 : decode prog_7_method_10_code 15 = .ok (.iload_n 2, 1) := by decide +kernel
theorem d_m_fee_16 : decode prog_7_method_10_code 16 = .ok (.iconst 0, 1) := by decide +kernel
theorem d_m_fee_17 : decode prog_7_method_10_code 17 = .ok (.sipush 10000, 3) := by decide +kernel
theorem d_m_fee_20 : decode prog_7_method_10_code 20 = .ok (.invokestatic 99, 3) := by decide +kernel
theorem d_m_fee_23 : decode prog_7_method_10_code 23 = .ok (.ifCond .ne 6, 3) := by decide +kernel
theorem d_m_fee_26 : decode prog_7_method_10_code 26 = .ok (.bipush (-2), 2) := by decide +kernel
theorem d_m_fee_28 : decode prog_7_method_10_code 28 = .ok (.ireturn, 1) := by decide +kernel
theorem d_m_fee_29 : decode prog_7_method_10_code 29 = .ok (.aload_n 0, 1) := by decide +kernel
theorem d_m_fee_30 : decode prog_7_method_10_code 30 = .ok (.getfield 23, 3) := by decide +kernel
theorem d_m_fee_33 : decode prog_7_method_10_code 33 = .ok (.iload_n 1, 1) := by decide +kernel
theorem d_m_fee_34 : decode prog_7_method_10_code 34 = .ok (.iload_n 2, 1) := by decide +kernel
theorem d_m_fee_35 : decode prog_7_method_10_code 35 = .ok (.iastore, 1) := by decide +kernel
theorem d_m_fee_36 : decode prog_7_method_10_code 36 = .ok (.iconst 1, 1) := by decide +kernel
theorem d_m_fee_37 : decode prog_7_method_10_code 37 = .ok (.ireturn, 1) := by decide +kernel
theorem d_m_give_0 : decode prog_7_method_17_code 0 = .ok (.aload_n 0, 1) := by decide +kernel
theorem d_m_give_1 : decode prog_7_method_17_code 1 = .ok (.iconst 0, 1) := by decide +kernel
theorem d_m_give_2 : decode prog_7_method_17_code 2 = .ok (.putfield 93, 3) := by decide +kernel
theorem d_m_give_5 : decode prog_7_method_17_code 5 = .ok (.iload_n 1, 1) := by decide +kernel
theorem d_m_give_6 : decode prog_7_method_17_code 6 = .ok (.iconst 0, 1) := by decide +kernel
theorem d_m_give_7 : decode prog_7_method_17_code 7 = .ok (.bipush 99, 2) := by decide +kernel
theorem d_m_give_9 : decode prog_7_method_17_code 9 = .ok (.invokestatic 99, 3) := by decide +kernel
theorem d_m_give_12 : decode prog_7_method_17_code 12 = .ok (.ifCond .eq 13, 3) := by decide +kernel
theorem d_m_give_15 : decode prog_7_method_17_code 15 = .ok (.iload_n 2, 1) := by decide +kernel
theorem d_m_give_16 : decode prog_7_method_17_code 16 = .ok (.iconst 1, 1) := by decide +kernel
theorem d_m_give_17 : decode prog_7_method_17_code 17 = .ok (.bipush 9, 2) := by decide +kernel
theorem d_m_give_19 : decode prog_7_method_17_code 19 = .ok (.invokestatic 99, 3) := by decide +kernel
theorem d_m_give_22 : decode prog_7_method_17_code 22 = .ok (.ifCond .ne 6, 3) := by decide +kernel
theorem d_m_give_25 : decode prog_7_method_17_code 25 = .ok (.bipush (-2), 2) := by decide +kernel
theorem d_m_give_27 : decode prog_7_method_17_code 27 = .ok (.ireturn, 1) := by decide +kernel
theorem d_m_give_28 : decode prog_7_method_17_code 28 = .ok (.aload_n 0, 1) := by decide +kernel
theorem d_m_give_29 : decode prog_7_method_17_code 29 = .ok (.getfield 26, 3) := by decide +kernel
theorem d_m_give_32 : decode prog_7_method_17_code 32 = .ok (.bipush 10, 2) := by decide +kernel
theorem d_m_give_34 : decode prog_7_method_17_code 34 = .ok (.iload_n 1, 1) := by decide +kernel
theorem d_m_give_35 : decode prog_7_method_17_code 35 = .ok (.imul, 1) := by decide +kernel
theorem d_m_give_36 : decode prog_7_method_17_code 36 = .ok (.iload_n 2, 1) := by decide +kernel
theorem d_m_give_37 : decode prog_7_method_17_code 37 = .ok (.iadd, 1) := by decide +kernel
theorem d_m_give_38 : decode prog_7_method_17_code 38 = .ok (.iload_n 3, 1) := by decide +kernel
theorem d_m_give_39 : decode prog_7_method_17_code 39 = .ok (.bastore, 1) := by decide +kernel
theorem d_m_give_40 : decode prog_7_method_17_code 40 = .ok (.iconst 1, 1) := by decide +kernel
theorem d_m_give_41 : decode prog_7_method_17_code 41 = .ok (.ireturn, 1) := by decide +kernel
theorem d_m_in_0 : decode prog_7_method_3_code 0 = .ok (.iload_n 0, 1) := by decide +kernel
theorem d_m_in_1 : decode prog_7_method_3_code 1 = .ok (.iload_n 1, 1) := by decide +kernel
theorem d_m_in_2 : decode prog_7_method_3_code 2 = .ok (.if_icmp .lt 12, 3) := by decide +kernel
theorem d_m_in_5 : decode prog_7_method_3_code 5 = .ok (.iload_n 0, 1) := by decide +kernel
theorem d_m_in_6 : decode prog_7_method_3_code 6 = .ok (.iload_n 2, 1) := by decide +kernel
theorem d_m_in_7 : decode prog_7_method_3_code 7 = .ok (.if_icmp .gt 7, 3) := by decide +kernel
theorem d_m_in_10 : decode prog_7_method_3_code 10 = .ok (.iconst 1, 1) := by decide +kernel
theorem d_m_in_11 : decode prog_7_method_3_code 11 = .ok (.goto 4, 3) := by decide +kernel
theorem d_m_in_14 : decode prog_7_method_3_code 14 = .ok (.iconst 0, 1) := by decide +kernel
theorem d_m_in_15 : decode prog_7_method_3_code 15 = .ok (.ireturn, 1) := by decide +kernel
theorem d_m_isTitle_0 : decode prog_7_method_4_code 0 = .ok (.iload_n 1, 1) := by decide +kernel
theorem d_m_isTitle_1 : decode prog_7_method_4_code 1 = .ok (.iconst 0, 1) := by decide +kernel
theorem d_m_isTitle_2 : decode prog_7_method_4_code 2 = .ok (.aload_n 0, 1) := by decide +kernel
theorem d_m_isTitle_3 : decode prog_7_method_4_code 3 = .ok (.getfield 96, 3) := by decide +kernel
theorem d_m_isTitle_6 : decode prog_7_method_4_code 6 = .ok (.iconst 1, 1) := by decide +kernel
theorem d_m_isTitle_7 : decode prog_7_method_4_code 7 = .ok (.isub, 1) := by decide +kernel
theorem d_m_isTitle_8 : decode prog_7_method_4_code 8 = .ok (.invokestatic 99, 3) := by decide +kernel
theorem d_m_isTitle_11 : decode prog_7_method_4_code 11 = .ok (.ireturn, 1) := by decide +kernel
theorem d_m_left_0 : decode prog_7_method_25_code 0 = .ok (.aload_n 0, 1) := by decide +kernel
theorem d_m_left_1 : decode prog_7_method_25_code 1 = .ok (.iconst 0, 1) := by decide +kernel
theorem d_m_left_2 : decode prog_7_method_25_code 2 = .ok (.putfield 93, 3) := by decide +kernel
theorem d_m_left_5 : decode prog_7_method_25_code 5 = .ok (.iload_n 1, 1) := by decide +kernel
theorem d_m_left_6 : decode prog_7_method_25_code 6 = .ok (.iconst 0, 1) := by decide +kernel
theorem d_m_left_7 : decode prog_7_method_25_code 7 = .ok (.aload_n 0, 1) := by decide +kernel
theorem d_m_left_8 : decode prog_7_method_25_code 8 = .ok (.getfield 114, 3) := by decide +kernel
theorem d_m_left_11 : decode prog_7_method_25_code 11 = .ok (.iconst 1, 1) := by decide +kernel
theorem d_m_left_12 : decode prog_7_method_25_code 12 = .ok (.isub, 1) := by decide +kernel
theorem d_m_left_13 : decode prog_7_method_25_code 13 = .ok (.invokestatic 99, 3) := by decide +kernel
theorem d_m_left_16 : decode prog_7_method_25_code 16 = .ok (.ifCond .eq 12, 3) := by decide +kernel
theorem d_m_left_28 : decode prog_7_method_25_code 28 = .ok (.iconst (-1), 1) := by decide +kernel
theorem d_m_left_29 : decode prog_7_method_25_code 29 = .ok (.ireturn, 1) := by decide +kernel
theorem d_m_licence_0 : decode prog_7_method_9_code 0 = .ok (.aload_n 0, 1) := by decide +kernel
theorem d_m_licence_1 : decode prog_7_method_9_code 1 = .ok (.iconst 0, 1) := by decide +kernel
theorem d_m_licence_2 : decode prog_7_method_9_code 2 = .ok (.putfield 93, 3) := by decide +kernel
theorem d_m_licence_5 : decode prog_7_method_9_code 5 = .ok (.aload_n 0, 1) := by decide +kernel
theorem d_m_licence_6 : decode prog_7_method_9_code 6 = .ok (.iload_n 1, 1) := by decide +kernel
theorem d_m_licence_7 : decode prog_7_method_9_code 7 = .ok (.invokevirtual 107, 3) := by decide +kernel
theorem d_m_licence_10 : decode prog_7_method_9_code 10 = .ok (.ifCond .ne 5, 3) := by decide +kernel
theorem d_m_licence_13 : decode prog_7_method_9_code 13 = .ok (.iconst (-1), 1) := by decide +kernel
theorem d_m_licence_14 : decode prog_7_method_9_code 14 = .ok (.ireturn, 1) := by decide +kernel
theorem d_m_limit_0 : decode prog_7_method_8_code 0 = .ok (.aload_n 0, 1) := by decide +kernel
theorem d_m_limit_1 : decode prog_7_method_8_code 1 = .ok (.iconst 0, 1) := by decide +kernel
theorem d_m_limit_2 : decode prog_7_method_8_code 2 = .ok (.putfield 93, 3) := by decide +kernel
theorem d_m_limit_5 : decode prog_7_method_8_code 5 = .ok (.aload_n 0, 1) := by decide +kernel
theorem d_m_limit_6 : decode prog_7_method_8_code 6 = .ok (.iload_n 1, 1) := by decide +kernel
theorem d_m_limit_7 : decode prog_7_method_8_code 7 = .ok (.invokevirtual 107, 3) := by decide +kernel
theorem d_m_limit_10 : decode prog_7_method_8_code 10 = .ok (.ifCond .ne 5, 3) := by decide +kernel
theorem d_m_limit_13 : decode prog_7_method_8_code 13 = .ok (.iconst (-1), 1) := by decide +kernel
theorem d_m_limit_14 : decode prog_7_method_8_code 14 = .ok (.ireturn, 1) := by decide +kernel
theorem d_m_open_0 : decode prog_7_method_7_code 0 = .ok (.aload_n 0, 1) := by decide +kernel
theorem d_m_open_1 : decode prog_7_method_7_code 1 = .ok (.iconst 0, 1) := by decide +kernel
theorem d_m_open_2 : decode prog_7_method_7_code 2 = .ok (.putfield 93, 3) := by decide +kernel
theorem d_m_open_5 : decode prog_7_method_7_code 5 = .ok (.aload_n 0, 1) := by decide +kernel
theorem d_m_open_6 : decode prog_7_method_7_code 6 = .ok (.iload_n 1, 1) := by decide +kernel
theorem d_m_open_7 : decode prog_7_method_7_code 7 = .ok (.invokevirtual 107, 3) := by decide +kernel
theorem d_m_open_10 : decode prog_7_method_7_code 10 = .ok (.ifCond .ne 5, 3) := by decide +kernel
theorem d_m_open_13 : decode prog_7_method_7_code 13 = .ok (.iconst (-1), 1) := by decide +kernel
theorem d_m_open_14 : decode prog_7_method_7_code 14 = .ok (.ireturn, 1) := by decide +kernel
theorem d_m_past_0 : decode prog_7_method_27_code 0 = .ok (.iload_n 2, 1) := by decide +kernel
theorem d_m_past_1 : decode prog_7_method_27_code 1 = .ok (.istore_n 3, 1) := by decide +kernel
theorem d_m_past_2 : decode prog_7_method_27_code 2 = .ok (.iconst 0, 1) := by decide +kernel
theorem d_m_past_3 : decode prog_7_method_27_code 3 = .ok (.istore 4, 2) := by decide +kernel
theorem d_m_past_5 : decode prog_7_method_27_code 5 = .ok (.iload 4, 2) := by decide +kernel
theorem d_m_past_7 : decode prog_7_method_27_code 7 = .ok (.aload_n 0, 1) := by decide +kernel
theorem d_m_past_8 : decode prog_7_method_27_code 8 = .ok (.getfield 117, 3) := by decide +kernel
theorem d_m_past_11 : decode prog_7_method_27_code 11 = .ok (.if_icmp .ge 58, 3) := by decide +kernel
theorem d_m_past_69 : decode prog_7_method_27_code 69 = .ok (.aload_n 0, 1) := by decide +kernel
theorem d_m_past_70 : decode prog_7_method_27_code 70 = .ok (.iconst 1, 1) := by decide +kernel
theorem d_m_past_71 : decode prog_7_method_27_code 71 = .ok (.putfield 93, 3) := by decide +kernel
theorem d_m_past_74 : decode prog_7_method_27_code 74 = .ok (.iconst 0, 1) := by decide +kernel
theorem d_m_past_75 : decode prog_7_method_27_code 75 = .ok (.ireturn, 1) := by decide +kernel
theorem d_m_renew_0 : decode prog_7_method_20_code 0 = .ok (.aload_n 0, 1) := by decide +kernel
theorem d_m_renew_1 : decode prog_7_method_20_code 1 = .ok (.iconst 0, 1) := by decide +kernel
theorem d_m_renew_2 : decode prog_7_method_20_code 2 = .ok (.putfield 93, 3) := by decide +kernel
theorem d_m_renew_5 : decode prog_7_method_20_code 5 = .ok (.iload_n 1, 1) := by decide +kernel
theorem d_m_renew_6 : decode prog_7_method_20_code 6 = .ok (.iconst 0, 1) := by decide +kernel
theorem d_m_renew_7 : decode prog_7_method_20_code 7 = .ok (.aload_n 0, 1) := by decide +kernel
theorem d_m_renew_8 : decode prog_7_method_20_code 8 = .ok (.getfield 117, 3) := by decide +kernel
theorem d_m_renew_11 : decode prog_7_method_20_code 11 = .ok (.iconst 1, 1) := by decide +kernel
theorem d_m_renew_12 : decode prog_7_method_20_code 12 = .ok (.isub, 1) := by decide +kernel
theorem d_m_renew_13 : decode prog_7_method_20_code 13 = .ok (.invokestatic 99, 3) := by decide +kernel
theorem d_m_renew_16 : decode prog_7_method_20_code 16 = .ok (.ifCond .ne 5, 3) := by decide +kernel
theorem d_m_renew_19 : decode prog_7_method_20_code 19 = .ok (.iconst (-1), 1) := by decide +kernel
theorem d_m_renew_20 : decode prog_7_method_20_code 20 = .ok (.ireturn, 1) := by decide +kernel
theorem d_m_request_0 : decode prog_7_method_24_code 0 = .ok (.aload_n 0, 1) := by decide +kernel
theorem d_m_request_1 : decode prog_7_method_24_code 1 = .ok (.iload_n 1, 1) := by decide +kernel
theorem d_m_request_2 : decode prog_7_method_24_code 2 = .ok (.iconst 0, 1) := by decide +kernel
theorem d_m_request_3 : decode prog_7_method_24_code 3 = .ok (.aload_n 0, 1) := by decide +kernel
theorem d_m_request_4 : decode prog_7_method_24_code 4 = .ok (.getfield 117, 3) := by decide +kernel
theorem d_m_request_7 : decode prog_7_method_24_code 7 = .ok (.iconst 1, 1) := by decide +kernel
theorem d_m_request_8 : decode prog_7_method_24_code 8 = .ok (.isub, 1) := by decide +kernel
theorem d_m_request_9 : decode prog_7_method_24_code 9 = .ok (.invokestatic 99, 3) := by decide +kernel
theorem d_m_request_12 : decode prog_7_method_24_code 12 = .ok (.ifCond .eq 13, 3) := by decide +kernel
theorem d_m_request_25 : decode prog_7_method_24_code 25 = .ok (.iconst 1, 1) := by decide +kernel
theorem d_m_request_26 : decode prog_7_method_24_code 26 = .ok (.goto 4, 3) := by decide +kernel
theorem d_m_request_30 : decode prog_7_method_24_code 30 = .ok (.putfield 93, 3) := by decide +kernel
theorem d_m_request_33 : decode prog_7_method_24_code 33 = .ok (.aload_n 0, 1) := by decide +kernel
theorem d_m_request_34 : decode prog_7_method_24_code 34 = .ok (.getfield 93, 3) := by decide +kernel
theorem d_m_request_37 : decode prog_7_method_24_code 37 = .ok (.ifCond .le 5, 3) := by decide +kernel
theorem d_m_request_40 : decode prog_7_method_24_code 40 = .ok (.iconst 0, 1) := by decide +kernel
theorem d_m_request_41 : decode prog_7_method_24_code 41 = .ok (.ireturn, 1) := by decide +kernel
theorem d_m_right_0 : decode prog_7_method_18_code 0 = .ok (.aload_n 0, 1) := by decide +kernel
theorem d_m_right_1 : decode prog_7_method_18_code 1 = .ok (.iconst 0, 1) := by decide +kernel
theorem d_m_right_2 : decode prog_7_method_18_code 2 = .ok (.putfield 93, 3) := by decide +kernel
theorem d_m_right_5 : decode prog_7_method_18_code 5 = .ok (.aload_n 0, 1) := by decide +kernel
theorem d_m_right_6 : decode prog_7_method_18_code 6 = .ok (.iload_n 1, 1) := by decide +kernel
theorem d_m_right_7 : decode prog_7_method_18_code 7 = .ok (.invokevirtual 107, 3) := by decide +kernel
theorem d_m_right_10 : decode prog_7_method_18_code 10 = .ok (.ifCond .ne 5, 3) := by decide +kernel
theorem d_m_right_13 : decode prog_7_method_18_code 13 = .ok (.iconst (-1), 1) := by decide +kernel
theorem d_m_right_14 : decode prog_7_method_18_code 14 = .ok (.ireturn, 1) := by decide +kernel
theorem d_m_statistics_0 : decode prog_7_method_26_code 0 = .ok (.aload_n 0, 1) := by decide +kernel
theorem d_m_statistics_1 : decode prog_7_method_26_code 1 = .ok (.iconst 0, 1) := by decide +kernel
theorem d_m_statistics_2 : decode prog_7_method_26_code 2 = .ok (.putfield 93, 3) := by decide +kernel
theorem d_m_statistics_5 : decode prog_7_method_26_code 5 = .ok (.iload_n 1, 1) := by decide +kernel
theorem d_m_statistics_6 : decode prog_7_method_26_code 6 = .ok (.iconst 0, 1) := by decide +kernel
theorem d_m_statistics_7 : decode prog_7_method_26_code 7 = .ok (.bipush 99, 2) := by decide +kernel
theorem d_m_statistics_9 : decode prog_7_method_26_code 9 = .ok (.invokestatic 99, 3) := by decide +kernel
theorem d_m_statistics_12 : decode prog_7_method_26_code 12 = .ok (.ifCond .eq 12, 3) := by decide +kernel
theorem d_m_statistics_15 : decode prog_7_method_26_code 15 = .ok (.iload_n 2, 1) := by decide +kernel
theorem d_m_statistics_16 : decode prog_7_method_26_code 16 = .ok (.iconst 0, 1) := by decide +kernel
theorem d_m_statistics_17 : decode prog_7_method_26_code 17 = .ok (.iconst 3, 1) := by decide +kernel
theorem d_m_statistics_18 : decode prog_7_method_26_code 18 = .ok (.invokestatic 99, 3) := by decide +kernel
theorem d_m_statistics_21 : decode prog_7_method_26_code 21 = .ok (.ifCond .ne 5, 3) := by decide +kernel
theorem d_m_statistics_24 : decode prog_7_method_26_code 24 = .ok (.iconst (-1), 1) := by decide +kernel
theorem d_m_statistics_25 : decode prog_7_method_26_code 25 = .ok (.ireturn, 1) := by decide +kernel
theorem d_m_statistics_26 : decode prog_7_method_26_code 26 = .ok (.iconst 0, 1) := by decide +kernel
theorem d_m_statistics_27 : decode prog_7_method_26_code 27 = .ok (.istore_n 3, 1) := by decide +kernel
theorem d_m_statistics_28 : decode prog_7_method_26_code 28 = .ok (.iconst 0, 1) := by decide +kernel
theorem d_m_statistics_29 : decode prog_7_method_26_code 29 = .ok (.istore 4, 2) := by decide +kernel
theorem d_m_statistics_31 : decode prog_7_method_26_code 31 = .ok (.iload 4, 2) := by decide +kernel
theorem d_m_statistics_33 : decode prog_7_method_26_code 33 = .ok (.aload_n 0, 1) := by decide +kernel
theorem d_m_statistics_34 : decode prog_7_method_26_code 34 = .ok (.getfield 117, 3) := by decide +kernel
theorem d_m_statistics_37 : decode prog_7_method_26_code 37 = .ok (.if_icmp .ge 92, 3) := by decide +kernel
theorem d_m_statistics_129 : decode prog_7_method_26_code 129 = .ok (.iload_n 3, 1) := by decide +kernel
theorem d_m_statistics_130 : decode prog_7_method_26_code 130 = .ok (.ireturn, 1) := by decide +kernel
theorem d_m_thrown_0 : decode prog_7_method_2_code 0 = .ok (.aload_n 0, 1) := by decide +kernel
theorem d_m_thrown_1 : decode prog_7_method_2_code 1 = .ok (.getfield 93, 3) := by decide +kernel
theorem d_m_thrown_4 : decode prog_7_method_2_code 4 = .ok (.ireturn, 1) := by decide +kernel
theorem d_m_title_0 : decode prog_7_method_6_code 0 = .ok (.aload_n 0, 1) := by decide +kernel
theorem d_m_title_1 : decode prog_7_method_6_code 1 = .ok (.iconst 0, 1) := by decide +kernel
theorem d_m_title_2 : decode prog_7_method_6_code 2 = .ok (.putfield 93, 3) := by decide +kernel
theorem d_m_title_5 : decode prog_7_method_6_code 5 = .ok (.iload_n 1, 1) := by decide +kernel
theorem d_m_title_6 : decode prog_7_method_6_code 6 = .ok (.iconst 0, 1) := by decide +kernel
theorem d_m_title_7 : decode prog_7_method_6_code 7 = .ok (.bipush 99, 2) := by decide +kernel
theorem d_m_title_9 : decode prog_7_method_6_code 9 = .ok (.invokestatic 99, 3) := by decide +kernel
theorem d_m_title_12 : decode prog_7_method_6_code 12 = .ok (.ifCond .ne 6, 3) := by decide +kernel
theorem d_m_title_15 : decode prog_7_method_6_code 15 = .ok (.bipush (-2), 2) := by decide +kernel
theorem d_m_title_17 : decode prog_7_method_6_code 17 = .ok (.ireturn, 1) := by decide +kernel
theorem d_m_title_18 : decode prog_7_method_6_code 18 = .ok (.aload_n 0, 1) := by decide +kernel
theorem d_m_title_19 : decode prog_7_method_6_code 19 = .ok (.getfield 96, 3) := by decide +kernel
theorem d_m_title_22 : decode prog_7_method_6_code 22 = .ok (.bipush 50, 2) := by decide +kernel
theorem d_m_title_24 : decode prog_7_method_6_code 24 = .ok (.if_icmp .ne 6, 3) := by decide +kernel
theorem d_m_title_30 : decode prog_7_method_6_code 30 = .ok (.aload_n 0, 1) := by decide +kernel
theorem d_m_title_31 : decode prog_7_method_6_code 31 = .ok (.getfield 7, 3) := by decide +kernel
theorem d_m_title_34 : decode prog_7_method_6_code 34 = .ok (.aload_n 0, 1) := by decide +kernel
theorem d_m_title_35 : decode prog_7_method_6_code 35 = .ok (.getfield 96, 3) := by decide +kernel
theorem d_m_title_38 : decode prog_7_method_6_code 38 = .ok (.iload_n 1, 1) := by decide +kernel
theorem d_m_title_39 : decode prog_7_method_6_code 39 = .ok (.iastore, 1) := by decide +kernel
theorem d_m_title_40 : decode prog_7_method_6_code 40 = .ok (.aload_n 0, 1) := by decide +kernel
theorem d_m_title_41 : decode prog_7_method_6_code 41 = .ok (.dup, 1) := by decide +kernel
theorem d_m_title_42 : decode prog_7_method_6_code 42 = .ok (.getfield 96, 3) := by decide +kernel
theorem d_m_title_45 : decode prog_7_method_6_code 45 = .ok (.iconst 1, 1) := by decide +kernel
theorem d_m_title_46 : decode prog_7_method_6_code 46 = .ok (.iadd, 1) := by decide +kernel
theorem d_m_title_47 : decode prog_7_method_6_code 47 = .ok (.putfield 96, 3) := by decide +kernel
theorem d_m_title_50 : decode prog_7_method_6_code 50 = .ok (.aload_n 0, 1) := by decide +kernel
theorem d_m_title_51 : decode prog_7_method_6_code 51 = .ok (.getfield 96, 3) := by decide +kernel
theorem d_m_title_54 : decode prog_7_method_6_code 54 = .ok (.iconst 1, 1) := by decide +kernel
theorem d_m_title_55 : decode prog_7_method_6_code 55 = .ok (.isub, 1) := by decide +kernel
theorem d_m_title_56 : decode prog_7_method_6_code 56 = .ok (.ireturn, 1) := by decide +kernel
theorem d_m_waive_0 : decode prog_7_method_19_code 0 = .ok (.aload_n 0, 1) := by decide +kernel
theorem d_m_waive_1 : decode prog_7_method_19_code 1 = .ok (.iconst 0, 1) := by decide +kernel
theorem d_m_waive_2 : decode prog_7_method_19_code 2 = .ok (.putfield 93, 3) := by decide +kernel
theorem d_m_waive_5 : decode prog_7_method_19_code 5 = .ok (.aload_n 0, 1) := by decide +kernel
theorem d_m_waive_6 : decode prog_7_method_19_code 6 = .ok (.iload_n 1, 1) := by decide +kernel
theorem d_m_waive_7 : decode prog_7_method_19_code 7 = .ok (.invokevirtual 107, 3) := by decide +kernel
theorem d_m_waive_10 : decode prog_7_method_19_code 10 = .ok (.ifCond .ne 5, 3) := by decide +kernel
theorem d_m_waive_13 : decode prog_7_method_19_code 13 = .ok (.iconst (-1), 1) := by decide +kernel
theorem d_m_waive_14 : decode prog_7_method_19_code 14 = .ok (.ireturn, 1) := by decide +kernel
theorem d_m_why_0 : decode prog_7_method_16_code 0 = .ok (.aload_n 0, 1) := by decide +kernel
theorem d_m_why_1 : decode prog_7_method_16_code 1 = .ok (.iconst 0, 1) := by decide +kernel
theorem d_m_why_2 : decode prog_7_method_16_code 2 = .ok (.putfield 93, 3) := by decide +kernel
theorem d_m_why_5 : decode prog_7_method_16_code 5 = .ok (.aload_n 0, 1) := by decide +kernel
theorem d_m_why_6 : decode prog_7_method_16_code 6 = .ok (.getfield 89, 3) := by decide +kernel
theorem d_m_why_9 : decode prog_7_method_16_code 9 = .ok (.ireturn, 1) := by decide +kernel
end
section
abbrev rl_tys (kI kZ : ClassId) : List (ClassId × FieldType) := [(kI, .int), (kZ, .boolean)]
def rl_st (F : Nat → Nat → Int32) (r i : Nat) (x : Int32) : Nat → Nat → Int32 := va_up F r (upd (F r) i x)
def rl_F0 : Nat → Nat → Int32 := fun r i => if r = 27 then (if i = 5 then -1 else 0) else 0
def rm_F0 : Nat → Nat → Int32 := fun r i => if r = 27 then (if i = 6 then -1 else 0) else 0
def rl_w (a : Nat → Nat) (kI kZ : ClassId) (F : Nat → Nat → Int32) : va_W := [(a 0, .inr (0, [.ref (a 1), .ref (a 2), .ref (a 3), .ref (a 4), .ref (a 30), .ref (a 31), .int (F 27 4), .int (F 27 5)])), (a 1, .inr (1, [.ref (a 5), .ref (a 6), .ref (a 7), .ref (a 8), .int (F 27 0)])), (a 2, .inr (2, [.ref (a 9), .ref (a 10), .ref (a 11), .ref (a 12), .int (F 27 1)])), (a 3, .inr (3, [.ref (a 13), .ref (a 14), .ref (a 15), .ref (a 16), .ref (a 17), .int (F 27 2)])), (a 4, .inr (4, [.ref (a 18), .ref (a 19), .ref (a 20), .ref (a 21), .ref (a 22), .ref (a 23), .ref (a 24), .ref (a 25), .ref (a 26), .ref (a 27), .ref (a 28), .ref (a 29), .int (F 27 3)])), (a 5, .inl (kI, 50, .inl (F 0))), (a 6, .inl (kZ, 50, .inl (F 1))), (a 7, .inl (kI, 50, .inl (F 2))), (a 8, .inl (kI, 50, .inl (F 3))), (a 9, .inl (kI, 100, .inl (F 4))), (a 10, .inl (kI, 100, .inl (F 5))), (a 11, .inl (kI, 100, .inl (F 6))), (a 12, .inl (kI, 100, .inl (F 7))), (a 13, .inl (kI, 50, .inl (F 8))), (a 14, .inl (kI, 50, .inl (F 9))), (a 15, .inl (kI, 50, .inl (F 10))), (a 16, .inl (kI, 50, .inl (F 11))), (a 17, .inl (kI, 50, .inl (F 12))), (a 18, .inl (kI, 300, .inl (F 13))), (a 19, .inl (kI, 300, .inl (F 14))), (a 20, .inl (kI, 300, .inl (F 15))), (a 21, .inl (kI, 300, .inl (F 16))), (a 22, .inl (kI, 300, .inl (F 17))), (a 23, .inl (kI, 300, .inl (F 18))), (a 24, .inl (kI, 300, .inl (F 19))), (a 25, .inl (kI, 300, .inl (F 20))), (a 26, .inl (kI, 300, .inl (F 21))), (a 27, .inl (kI, 300, .inl (F 22))), (a 28, .inl (kI, 300, .inl (F 23))), (a 29, .inl (kI, 300, .inl (F 24))), (a 30, .inl (kI, 100, .inl (F 25))), (a 31, .inl (kI, 100, .inl (F 26)))]
def rm_w (a : Nat → Nat) (kI kZ : ClassId) (F : Nat → Nat → Int32) : va_W := [(a 0, .inr (5, [.int (F 27 0), .int (F 27 1), .int (F 27 2), .ref (a 1), .ref (a 2), .ref (a 3), .ref (a 4), .ref (a 5), .ref (a 6), .int (F 27 3), .ref (a 7), .ref (a 8), .ref (a 9), .ref (a 10), .int (F 27 4), .ref (a 11), .ref (a 12), .ref (a 13), .ref (a 14), .ref (a 15), .int (F 27 5), .ref (a 16), .ref (a 17), .ref (a 18), .ref (a 19), .ref (a 20), .ref (a 21), .ref (a 22), .ref (a 23), .ref (a 24), .ref (a 25), .ref (a 26), .int (F 27 6)])), (a 1, .inl (kI, 50, .inl (F 0))), (a 2, .inl (kZ, 50, .inl (F 1))), (a 3, .inl (kI, 50, .inl (F 2))), (a 4, .inl (kI, 50, .inl (F 3))), (a 5, .inl (kI, 100, .inl (F 4))), (a 6, .inl (kZ, 1000, .inl (F 5))), (a 7, .inl (kI, 100, .inl (F 6))), (a 8, .inl (kI, 100, .inl (F 7))), (a 9, .inl (kI, 100, .inl (F 8))), (a 10, .inl (kI, 100, .inl (F 9))), (a 11, .inl (kI, 50, .inl (F 10))), (a 12, .inl (kI, 50, .inl (F 11))), (a 13, .inl (kI, 50, .inl (F 12))), (a 14, .inl (kI, 50, .inl (F 13))), (a 15, .inl (kI, 50, .inl (F 14))), (a 16, .inl (kI, 300, .inl (F 15))), (a 17, .inl (kI, 300, .inl (F 16))), (a 18, .inl (kI, 300, .inl (F 17))), (a 19, .inl (kI, 300, .inl (F 18))), (a 20, .inl (kI, 300, .inl (F 19))), (a 21, .inl (kI, 300, .inl (F 20))), (a 22, .inl (kI, 300, .inl (F 21))), (a 23, .inl (kI, 300, .inl (F 22))), (a 24, .inl (kI, 300, .inl (F 23))), (a 25, .inl (kI, 300, .inl (F 24))), (a 26, .inl (kI, 300, .inl (F 25)))]
theorem rl_addv {x y : Int32} (h1 : -2147483648 ≤ x.toInt + y.toInt) (h2 : x.toInt + y.toInt < 2147483648) : (x + y).toInt = x.toInt + y.toInt := rl_addk rfl h1 h2
theorem rl_mulk {x k : Int32} {n : Int} (hk : k.toInt = n) (h1 : -2147483648 ≤ n * x.toInt) (h2 : n * x.toInt < 2147483648) : (k * x).toInt = n * x.toInt := by
  rw [Int32.toInt_mul, hk, Int.bmod_def]
  omega
theorem rl_nw0 : ∀ x ∈ ([] : List Cond), rl_nest x := fun _ h => nomatch h
theorem rl_N0 {s : State} : ∀ x ∈ ([] : List Cond), va_Nw x s := fun _ h => nomatch h
end
section
set_option maxHeartbeats 4000000 in
set_option maxRecDepth 100000 in
theorem k_x_isBetween (l : Launch) (D : va_G) (a : Nat → Nat) (kI kZ : ClassId) (jn jlo jhi : Int32) (H0 : Heap) : rl_Ri l ⟨"RightsLimit", "isBetween", "(III)Z"⟩ (Cond.code ⟨"RightsLimit", "isBetween", "(III)Z"⟩ prog_1_method_30_code 3 (some .boolean) :: rl_G) { frames := 0, cells := 0, slots := 0, locals := 0 } D rl_cl (rl_tys kI kZ) [] [.int jn, .int jlo, .int jhi] [] H0 (fun (r : Int32) => (r = 1 ∧ (jlo.toInt ≤ jn.toInt ∧ jn.toInt ≤ jhi.toInt)) ∨ (r = 0 ∧ ¬ (jlo.toInt ≤ jn.toInt ∧ jn.toInt ≤ jhi.toInt))) := by
  refine rl_metr (cc := prog_1_method_30_code) (maxL := 3) (ret := (some .boolean)) (by decide) rfl (Nat.le_of_ble_eq_true rfl) ?_
  intro p e s m below meth c ls hx hb hr hml hown hts hlocks hP hK hS hN hl
  have hown : s.vm.findClass "RightsLimit" = some m.cls := hown
  have hG : ∀ x ∈ rl_G, x.before _ s = true := fun x h => hts x (List.mem_cons_of_mem _ h)
  have hl : lv_has ls 3 [(0, .int jn), (1, .int jlo), (2, .int jhi)] := hl
  refine lv_iload_n hx hb d_x_isBetween_0 rfl (lv_at hl 0 rfl) ?_
  refine lv_iload_n hx hb d_x_isBetween_1 rfl (lv_at hl 1 rfl) ?_
  refine lv_icmp_lt (tgt := 14) hx hb d_x_isBetween_2 (by decide) (fun c1 => ?_) (fun c1 => ?_)
  · have ic1 := rl_ilt c1
    refine lv_iconst (v := 0) hx hb d_x_isBetween_14 (by decide) ?_
    exact W.zret (v := 0) hx hb hr rfl (fun t ht hW => ⟨⟨0, (), rfl, Or.inr ⟨rfl, by omega⟩, ht⟩, hS.F ht⟩) hS.2.2 d_x_isBetween_15
  · have ic1 := rl_inlt c1
    refine lv_iload_n hx hb d_x_isBetween_5 rfl (lv_at hl 0 rfl) ?_
    refine lv_iload_n hx hb d_x_isBetween_6 rfl (lv_at hl 2 rfl) ?_
    refine lv_icmp_gt (tgt := 14) hx hb d_x_isBetween_7 (by decide) (fun c2 => ?_) (fun c2 => ?_)
    · have ic2 := rl_ilt c2
      refine lv_iconst (v := 0) hx hb d_x_isBetween_14 (by decide) ?_
      exact W.zret (v := 0) hx hb hr rfl (fun t ht hW => ⟨⟨0, (), rfl, Or.inr ⟨rfl, by omega⟩, ht⟩, hS.F ht⟩) hS.2.2 d_x_isBetween_15
    · have ic2 := rl_inlt c2
      refine lv_iconst (v := 1) hx hb d_x_isBetween_10 (by decide) ?_
      refine lv_goto (tgt := 15) hx hb d_x_isBetween_11 (by decide) ?_
      exact W.zret (v := 1) hx hb hr rfl (fun t ht hW => ⟨⟨1, (), rfl, Or.inl ⟨rfl, by omega⟩, ht⟩, hS.F ht⟩) hS.2.2 d_x_isBetween_15
set_option maxHeartbeats 4000000 in
set_option maxRecDepth 100000 in
theorem k_x_isPublisher (l : Launch) (D : va_G) (a : Nat → Nat) (kI kZ : ClassId) (jn : Int32) (H0 : Heap) : rl_Ri l ⟨"RightsLimit", "isPublisher", "(I)Z"⟩ (Cond.code ⟨"RightsLimit", "isPublisher", "(I)Z"⟩ prog_1_method_25_code 1 (some .boolean) :: rl_G) { frames := 1, cells := 0, slots := 0, locals := 22 } D rl_cl (rl_tys kI kZ) [] [.int jn] [] H0 (fun (r : Int32) => (r = 1 ∧ (0 ≤ jn.toInt ∧ jn.toInt ≤ 99)) ∨ (r = 0 ∧ ¬ (0 ≤ jn.toInt ∧ jn.toInt ≤ 99))) := by
  refine rl_metr (cc := prog_1_method_25_code) (maxL := 1) (ret := (some .boolean)) (by decide) rfl (Nat.le_of_ble_eq_true rfl) ?_
  intro p e s m below meth c ls hx hb hr hml hown hts hlocks hP hK hS hN hl
  have hown : s.vm.findClass "RightsLimit" = some m.cls := hown
  have hG : ∀ x ∈ rl_G, x.before _ s = true := fun x h => hts x (List.mem_cons_of_mem _ h)
  have hl : lv_has ls 1 [(0, .int jn)] := hl
  refine lv_iload_n hx hb d_x_isPublisher_0 rfl (lv_at hl 0 rfl) ?_
  refine lv_iconst (v := 0) hx hb d_x_isPublisher_1 (by decide) ?_
  refine lv_bipush (v := 99) hx hb d_x_isPublisher_2 (by decide) ?_
  refine rl_callr hS (va_runS (As := [.int jn, .int 0, .int 99]) (rest := []) ⟨hx, hb, hml, hown, hG⟩ (k_x_isBetween l D a kI kZ jn 0 99 _) (cwS 3 hG (rl_gS wd_200 wd_201 wd_14 wd_202) rfl rfl rfl (by decide +kernel) ⟨Nat.le_of_ble_eq_true rfl, Nat.le_of_ble_eq_true rfl⟩) (rl_BR.pre rl_nw0 rl_P0 hK hN) rfl rfl hl.1 rfl (lv_room (Nat.le_of_ble_eq_true rfl)) d_x_isPublisher_4 ⟨Nat.le_of_ble_eq_true rfl, Nat.le_of_ble_eq_true rfl⟩) (fun r locs hw hS => ?_)
  try simp only [rl_n0, rl_n99] at hw
  rcases hw with ⟨rfl, h1⟩ | ⟨rfl, h1⟩
  · exact W.zret (v := 1) hx hb hr rfl (fun t ht hW => ⟨⟨1, (), rfl, Or.inl ⟨rfl, by omega⟩, ht⟩, hS.F ht⟩) hS.2.2 d_x_isPublisher_7
  · exact W.zret (v := 0) hx hb hr rfl (fun t ht hW => ⟨⟨0, (), rfl, Or.inr ⟨rfl, by omega⟩, ht⟩, hS.F ht⟩) hS.2.2 d_x_isPublisher_7
set_option maxHeartbeats 4000000 in
set_option maxRecDepth 100000 in
theorem k_x_isPerson (l : Launch) (D : va_G) (a : Nat → Nat) (kI kZ : ClassId) (jn : Int32) (H0 : Heap) : rl_Ri l ⟨"RightsLimit", "isPerson", "(I)Z"⟩ (Cond.code ⟨"RightsLimit", "isPerson", "(I)Z"⟩ prog_1_method_26_code 1 (some .boolean) :: rl_G) { frames := 1, cells := 0, slots := 0, locals := 22 } D rl_cl (rl_tys kI kZ) [] [.int jn] [] H0 (fun (r : Int32) => (r = 1 ∧ (0 ≤ jn.toInt ∧ jn.toInt ≤ 99)) ∨ (r = 0 ∧ ¬ (0 ≤ jn.toInt ∧ jn.toInt ≤ 99))) := by
  refine rl_metr (cc := prog_1_method_26_code) (maxL := 1) (ret := (some .boolean)) (by decide) rfl (Nat.le_of_ble_eq_true rfl) ?_
  intro p e s m below meth c ls hx hb hr hml hown hts hlocks hP hK hS hN hl
  have hown : s.vm.findClass "RightsLimit" = some m.cls := hown
  have hG : ∀ x ∈ rl_G, x.before _ s = true := fun x h => hts x (List.mem_cons_of_mem _ h)
  have hl : lv_has ls 1 [(0, .int jn)] := hl
  refine lv_iload_n hx hb d_x_isPerson_0 rfl (lv_at hl 0 rfl) ?_
  refine lv_iconst (v := 0) hx hb d_x_isPerson_1 (by decide) ?_
  refine lv_bipush (v := 99) hx hb d_x_isPerson_2 (by decide) ?_
  refine rl_callr hS (va_runS (As := [.int jn, .int 0, .int 99]) (rest := []) ⟨hx, hb, hml, hown, hG⟩ (k_x_isBetween l D a kI kZ jn 0 99 _) (cwS 3 hG (rl_gS wd_200 wd_201 wd_14 wd_202) rfl rfl rfl (by decide +kernel) ⟨Nat.le_of_ble_eq_true rfl, Nat.le_of_ble_eq_true rfl⟩) (rl_BR.pre rl_nw0 rl_P0 hK hN) rfl rfl hl.1 rfl (lv_room (Nat.le_of_ble_eq_true rfl)) d_x_isPerson_4 ⟨Nat.le_of_ble_eq_true rfl, Nat.le_of_ble_eq_true rfl⟩) (fun r locs hw hS => ?_)
  try simp only [rl_n0, rl_n99] at hw
  rcases hw with ⟨rfl, h1⟩ | ⟨rfl, h1⟩
  · exact W.zret (v := 1) hx hb hr rfl (fun t ht hW => ⟨⟨1, (), rfl, Or.inl ⟨rfl, by omega⟩, ht⟩, hS.F ht⟩) hS.2.2 d_x_isPerson_7
  · exact W.zret (v := 0) hx hb hr rfl (fun t ht hW => ⟨⟨0, (), rfl, Or.inr ⟨rfl, by omega⟩, ht⟩, hS.F ht⟩) hS.2.2 d_x_isPerson_7
set_option maxHeartbeats 4000000 in
set_option maxRecDepth 100000 in
theorem k_t_has (l : Launch) (D : va_G) (a : Nat → Nat) (kI kZ : ClassId) (jn : Int32) (H0 : Heap) : rl_Ri l ⟨"RightsLimit$Titles", "has", "(I)Z"⟩ (Cond.code ⟨"RightsLimit$Titles", "has", "(I)Z"⟩ prog_5_method_2_code 2 (some .boolean) :: rl_G) { frames := 0, cells := 0, slots := 0, locals := 0 } D rl_cl (rl_tys kI kZ) [] [.ref (a 1), .int jn] (rl_w a kI kZ rl_F0) H0 (fun (r : Int32) => r = 0) := by
  refine rl_metr (cc := prog_5_method_2_code) (maxL := 2) (ret := (some .boolean)) (by decide) rfl (Nat.le_of_ble_eq_true rfl) ?_
  intro p e s m below meth c ls hx hb hr hml hown hts hlocks hP hK hS hN hl
  have hown : s.vm.findClass "RightsLimit$Titles" = some m.cls := hown
  have hG : ∀ x ∈ rl_G, x.before _ s = true := fun x h => hts x (List.mem_cons_of_mem _ h)
  have hl : lv_has ls 2 [(0, .ref (a 1)), (1, .int jn)] := hl
  refine lv_iload_n hx hb d_t_has_0 rfl (lv_at hl 1 rfl) ?_
  refine lv_if_lt (tgt := 16) hx hb d_t_has_1 (by decide) (fun c1 => ?_) (fun c1 => ?_)
  · have ic1 := rl_ilt c1
    simp only [rl_n0] at ic1
    refine lv_iconst (v := 0) hx hb d_t_has_16 (by decide) ?_
    exact W.zret (v := 0) hx hb hr rfl (fun t ht hW => ⟨⟨0, (), rfl, rfl, ht⟩, hS.F ht⟩) hS.2.2 d_t_has_17
  · have ic1 := rl_inlt c1
    simp only [rl_n0] at ic1
    refine lv_iload_n hx hb d_t_has_4 rfl (lv_at hl 1 rfl) ?_
    refine lv_aload_n hx hb d_t_has_5 rfl (lv_at hl 0 rfl) ?_
    refine va_get (D := D) (ci := 1) (v := .int 0) (C := "RightsLimit$Titles") (T := fT_t) (N := 5) hx hb hG fi_t hown hK hP 1 rfl rfl 4 (by decide) (hG _ wd_46) (fun _ h9 => h9) rfl d_t_has_6 ?_
    refine lv_icmp_ge (tgt := 16) hx hb d_t_has_9 (by decide) (fun c2 => ?_) (fun c2 => ?_)
    · have ic2 := rl_ile c2
      simp only [rl_n0] at ic2
      refine lv_iconst (v := 0) hx hb d_t_has_16 (by decide) ?_
      exact W.zret (v := 0) hx hb hr rfl (fun t ht hW => ⟨⟨0, (), rfl, rfl, ht⟩, hS.F ht⟩) hS.2.2 d_t_has_17
    · have ic2 := rl_inle c2
      simp only [rl_n0] at ic2
      exfalso; omega
set_option maxHeartbeats 4000000 in
set_option maxRecDepth 100000 in
theorem k_c_has (l : Launch) (D : va_G) (a : Nat → Nat) (kI kZ : ClassId) (jn : Int32) (H0 : Heap) : rl_Ri l ⟨"RightsLimit$Licences", "has", "(I)Z"⟩ (Cond.code ⟨"RightsLimit$Licences", "has", "(I)Z"⟩ prog_2_method_2_code 2 (some .boolean) :: rl_G) { frames := 0, cells := 0, slots := 0, locals := 0 } D rl_cl (rl_tys kI kZ) [] [.ref (a 3), .int jn] (rl_w a kI kZ rl_F0) H0 (fun (r : Int32) => r = 0) := by
  refine rl_metr (cc := prog_2_method_2_code) (maxL := 2) (ret := (some .boolean)) (by decide) rfl (Nat.le_of_ble_eq_true rfl) ?_
  intro p e s m below meth c ls hx hb hr hml hown hts hlocks hP hK hS hN hl
  have hown : s.vm.findClass "RightsLimit$Licences" = some m.cls := hown
  have hG : ∀ x ∈ rl_G, x.before _ s = true := fun x h => hts x (List.mem_cons_of_mem _ h)
  have hl : lv_has ls 2 [(0, .ref (a 3)), (1, .int jn)] := hl
  refine lv_iload_n hx hb d_c_has_0 rfl (lv_at hl 1 rfl) ?_
  refine lv_if_lt (tgt := 16) hx hb d_c_has_1 (by decide) (fun c1 => ?_) (fun c1 => ?_)
  · have ic1 := rl_ilt c1
    simp only [rl_n0] at ic1
    refine lv_iconst (v := 0) hx hb d_c_has_16 (by decide) ?_
    exact W.zret (v := 0) hx hb hr rfl (fun t ht hW => ⟨⟨0, (), rfl, rfl, ht⟩, hS.F ht⟩) hS.2.2 d_c_has_17
  · have ic1 := rl_inlt c1
    simp only [rl_n0] at ic1
    refine lv_iload_n hx hb d_c_has_4 rfl (lv_at hl 1 rfl) ?_
    refine lv_aload_n hx hb d_c_has_5 rfl (lv_at hl 0 rfl) ?_
    refine va_get (D := D) (ci := 3) (v := .int 0) (C := "RightsLimit$Licences") (T := fT_c) (N := 6) hx hb hG fi_c hown hK hP 3 rfl rfl 5 (by decide) (hG _ wd_97) (fun _ h9 => h9) rfl d_c_has_6 ?_
    refine lv_icmp_ge (tgt := 16) hx hb d_c_has_9 (by decide) (fun c2 => ?_) (fun c2 => ?_)
    · have ic2 := rl_ile c2
      simp only [rl_n0] at ic2
      refine lv_iconst (v := 0) hx hb d_c_has_16 (by decide) ?_
      exact W.zret (v := 0) hx hb hr rfl (fun t ht hW => ⟨⟨0, (), rfl, rfl, ht⟩, hS.F ht⟩) hS.2.2 d_c_has_17
    · have ic2 := rl_inle c2
      simp only [rl_n0] at ic2
      exfalso; omega
set_option maxHeartbeats 4000000 in
set_option maxRecDepth 100000 in
theorem k_q_has (l : Launch) (D : va_G) (a : Nat → Nat) (kI kZ : ClassId) (jn : Int32) (H0 : Heap) : rl_Ri l ⟨"RightsLimit$Requests", "has", "(I)Z"⟩ (Cond.code ⟨"RightsLimit$Requests", "has", "(I)Z"⟩ prog_4_method_2_code 2 (some .boolean) :: rl_G) { frames := 0, cells := 0, slots := 0, locals := 0 } D rl_cl (rl_tys kI kZ) [] [.ref (a 4), .int jn] (rl_w a kI kZ rl_F0) H0 (fun (r : Int32) => r = 0) := by
  refine rl_metr (cc := prog_4_method_2_code) (maxL := 2) (ret := (some .boolean)) (by decide) rfl (Nat.le_of_ble_eq_true rfl) ?_
  intro p e s m below meth c ls hx hb hr hml hown hts hlocks hP hK hS hN hl
  have hown : s.vm.findClass "RightsLimit$Requests" = some m.cls := hown
  have hG : ∀ x ∈ rl_G, x.before _ s = true := fun x h => hts x (List.mem_cons_of_mem _ h)
  have hl : lv_has ls 2 [(0, .ref (a 4)), (1, .int jn)] := hl
  refine lv_iload_n hx hb d_q_has_0 rfl (lv_at hl 1 rfl) ?_
  refine lv_if_lt (tgt := 16) hx hb d_q_has_1 (by decide) (fun c1 => ?_) (fun c1 => ?_)
  · have ic1 := rl_ilt c1
    simp only [rl_n0] at ic1
    refine lv_iconst (v := 0) hx hb d_q_has_16 (by decide) ?_
    exact W.zret (v := 0) hx hb hr rfl (fun t ht hW => ⟨⟨0, (), rfl, rfl, ht⟩, hS.F ht⟩) hS.2.2 d_q_has_17
  · have ic1 := rl_inlt c1
    simp only [rl_n0] at ic1
    refine lv_iload_n hx hb d_q_has_4 rfl (lv_at hl 1 rfl) ?_
    refine lv_aload_n hx hb d_q_has_5 rfl (lv_at hl 0 rfl) ?_
    refine va_get (D := D) (ci := 4) (v := .int 0) (C := "RightsLimit$Requests") (T := fT_q) (N := 13) hx hb hG fi_q hown hK hP 4 rfl rfl 12 (by decide) (hG _ wd_140) (fun _ h9 => h9) rfl d_q_has_6 ?_
    refine lv_icmp_ge (tgt := 16) hx hb d_q_has_9 (by decide) (fun c2 => ?_) (fun c2 => ?_)
    · have ic2 := rl_ile c2
      simp only [rl_n0] at ic2
      refine lv_iconst (v := 0) hx hb d_q_has_16 (by decide) ?_
      exact W.zret (v := 0) hx hb hr rfl (fun t ht hW => ⟨⟨0, (), rfl, rfl, ht⟩, hS.F ht⟩) hS.2.2 d_q_has_17
    · have ic2 := rl_inle c2
      simp only [rl_n0] at ic2
      exfalso; omega
set_option maxHeartbeats 4000000 in
set_option maxRecDepth 100000 in
theorem k_t_add (l : Launch) (D : va_G) (a : Nat → Nat) (kI kZ : ClassId) (jp : Int32) (sz : Nat) : rl_Ci (S := Nat → Nat → Int32) l ⟨"RightsLimit$Titles", "add", "(I)I"⟩ (Cond.code ⟨"RightsLimit$Titles", "add", "(I)I"⟩ prog_5_method_3_code 2 (some .int) :: rl_G) { frames := 0, cells := 0, slots := 0, locals := 0 } D rl_cl (rl_tys kI kZ) [] [.ref (a 1), .int jp] (rl_w a kI kZ rl_F0) sz (fun (r : Int32) (F' : Nat → Nat → Int32) => r.toInt = 0) (fun F' => rl_w a kI kZ F') 0 0 := by
  refine rl_meti (cc := prog_5_method_3_code) (maxL := 2) (ret := (some .int)) (by decide) rfl (Nat.le_of_ble_eq_true rfl) ?_
  intro p e s m below meth c A ls hx hb hr hml hown hts hlocks hnm hP hK hD hS hA hN hl
  have hown : s.vm.findClass "RightsLimit$Titles" = some m.cls := hown
  have hG : ∀ x ∈ rl_G, x.before _ s = true := fun x h => hts x (List.mem_cons_of_mem _ h)
  have hl : lv_has ls 2 [(0, .ref (a 1)), (1, .int jp)] := hl
  refine lv_aload_n hx hb d_t_add_0 rfl (lv_at hl 0 rfl) ?_
  refine va_get (D := D) (ci := 1) (v := .int 0) (C := "RightsLimit$Titles") (T := fT_t) (N := 5) hx hb hG fi_t hown hK hP 1 rfl rfl 4 (by decide) (hG _ wd_46) (fun _ h9 => h9) rfl d_t_add_1 ?_
  refine lv_bipush (v := 50) hx hb d_t_add_4 (by decide) ?_
  refine lv_icmp_lt (tgt := 12) hx hb d_t_add_6 (by decide) (fun _ => ?_) (fun c9 => absurd c9 (by decide))
  refine lv_aload_n hx hb d_t_add_12 rfl (lv_at hl 0 rfl) ?_
  refine va_get (D := D) (ci := 1) (v := .ref (a 5)) (C := "RightsLimit$Titles") (T := fT_t) (N := 5) hx hb hG fi_t hown hK hP 1 rfl rfl 0 (by decide) (hG _ wd_38) (fun _ h9 => h9) rfl d_t_add_13 ?_
  refine lv_aload_n hx hb d_t_add_16 rfl (lv_at hl 0 rfl) ?_
  refine va_get (D := D) (ci := 1) (v := .int 0) (C := "RightsLimit$Titles") (T := fT_t) (N := 5) hx hb hG fi_t hown hK hP 1 rfl rfl 4 (by decide) (hG _ wd_46) (fun _ h9 => h9) rfl d_t_add_17 ?_
  refine lv_iload_n hx hb d_t_add_20 rfl (lv_at hl 1 rfl) ?_
  refine va_iast hx hb hK hP hD hS 5 0 rfl rfl (rl_in (x := 0) (n := 50) (by decide) (by decide)) d_t_add_21 (fun H locs hP hD hS => ?_)
  have hP : va_P D rl_cl (rl_w a kI kZ (rl_st rl_F0 0 (0 : Int32).toNatClampNeg jp)) H := hP
  have hD : va_D A (rl_w a kI kZ (rl_st rl_F0 0 (0 : Int32).toNatClampNeg jp)) := hD
  refine lv_aload_n hx hb d_t_add_22 rfl (lv_at hl 0 rfl) ?_
  refine lv_dup hx hb d_t_add_23 rfl ?_
  refine va_get (D := D) (ci := 1) (v := .int 0) (C := "RightsLimit$Titles") (T := fT_t) (N := 5) hx hb hG fi_t hown hK hP 1 rfl rfl 4 (by decide) (hG _ wd_46) (fun _ h9 => h9) rfl d_t_add_24 ?_
  refine lv_iconst (v := 1) hx hb d_t_add_27 (by decide) ?_
  refine lv_iadd hx hb d_t_add_28 ?_
  refine lv_topi (fun v1 ev1 => ?_)
  have iv1 : v1.toInt = 1 := by rw [ev1]; decide
  refine va_put (D := D) (ci := 1) (v := .int v1) (ty := .int) (C := "RightsLimit$Titles") (T := fT_t) (N := 5) hx hb hG fi_t fy_t fo_t fn_t hown hK hP hD hS 1 rfl rfl 4 (by decide) (hG _ wd_46) (fun _ h9 => h9) rfl (by decide +kernel) rfl rfl (Nat.le_of_ble_eq_true rfl) d_t_add_29 (fun H locs hP hD hS => ?_)
  have hP : va_P D rl_cl (rl_w a kI kZ (rl_st (rl_st rl_F0 0 (0 : Int32).toNatClampNeg jp) 27 0 v1)) H := hP
  have hD : va_D A (rl_w a kI kZ (rl_st (rl_st rl_F0 0 (0 : Int32).toNatClampNeg jp) 27 0 v1)) := hD
  refine lv_aload_n hx hb d_t_add_32 rfl (lv_at hl 0 rfl) ?_
  refine va_get (D := D) (ci := 1) (v := .int v1) (C := "RightsLimit$Titles") (T := fT_t) (N := 5) hx hb hG fi_t hown hK hP 1 rfl rfl 4 (by decide) (hG _ wd_46) (fun _ h9 => h9) rfl d_t_add_33 ?_
  refine lv_iconst (v := 1) hx hb d_t_add_36 (by decide) ?_
  refine lv_isub hx hb d_t_add_37 ?_
  refine lv_topi (fun v2 ev2 => ?_)
  have iv2 : v2.toInt = v1.toInt - 1 := by rw [ev2]; exact rl_subk (by decide) (by omega) (by omega)
  exact W.iret (v := v2) hx hb hr (fun t ht hW => ⟨⟨v2, (rl_st (rl_st rl_F0 0 (0 : Int32).toNatClampNeg jp) 27 0 v1), rfl, (show v2.toInt = 0 by omega), ⟨by rw [ht]; exact hP, hD⟩⟩, hS.F ht⟩) hS.2.2 d_t_add_38
set_option maxHeartbeats 4000000 in
set_option maxRecDepth 100000 in
theorem k_q_countOf (l : Launch) (D : va_G) (a : Nat → Nat) (kI kZ : ClassId) (jn : Int32) (H0 : Heap) : rl_Ri l ⟨"RightsLimit$Requests", "countOf", "(I)I"⟩ (Cond.code ⟨"RightsLimit$Requests", "countOf", "(I)I"⟩ prog_4_method_14_code 4 (some .int) :: rl_G) { frames := 0, cells := 0, slots := 0, locals := 0 } D rl_cl (rl_tys kI kZ) [] [.ref (a 4), .int jn] (rl_w a kI kZ rl_F0) H0 (fun (r : Int32) => r.toInt = 0) := by
  refine rl_metr (cc := prog_4_method_14_code) (maxL := 4) (ret := (some .int)) (by decide) rfl (Nat.le_of_ble_eq_true rfl) ?_
  intro p e s m below meth c ls hx hb hr hml hown hts hlocks hP hK hS hN hl
  have hown : s.vm.findClass "RightsLimit$Requests" = some m.cls := hown
  have hG : ∀ x ∈ rl_G, x.before _ s = true := fun x h => hts x (List.mem_cons_of_mem _ h)
  have hl : lv_has ls 4 [(0, .ref (a 4)), (1, .int jn)] := hl
  refine lv_iconst (v := 0) hx hb d_q_countOf_0 (by decide) ?_
  refine lv_istore_n (lv' := [(2, .int 0), (0, .ref (a 4)), (1, .int jn)]) hx hb d_q_countOf_1 rfl hl (by decide) rfl (fun ls hl => ?_)
  refine lv_iconst (v := 0) hx hb d_q_countOf_2 (by decide) ?_
  refine lv_istore_n (lv' := [(3, .int 0), (2, .int 0), (0, .ref (a 4)), (1, .int jn)]) hx hb d_q_countOf_3 rfl hl (by decide) rfl (fun ls hl => ?_)
  refine lv_iload_n hx hb d_q_countOf_4 rfl (lv_at hl 0 rfl) ?_
  refine lv_aload_n hx hb d_q_countOf_5 rfl (lv_at hl 2 rfl) ?_
  refine va_get (D := D) (ci := 4) (v := .int 0) (C := "RightsLimit$Requests") (T := fT_q) (N := 13) hx hb hG fi_q hown hK hP 4 rfl rfl 12 (by decide) (hG _ wd_140) (fun _ h9 => h9) rfl d_q_countOf_6 ?_
  refine lv_icmp_ge (tgt := 31) hx hb d_q_countOf_9 (by decide) (fun _ => ?_) (fun c9 => absurd c9 (by decide))
  refine lv_iload_n hx hb d_q_countOf_31 rfl (lv_at hl 1 rfl) ?_
  exact W.iret (v := 0) hx hb hr (fun t ht hW => ⟨⟨0, (), rfl, (show (0 : Int32).toInt = 0 by have q9 := rl_n0; omega), ht⟩, hS.F ht⟩) hS.2.2 d_q_countOf_32
set_option maxHeartbeats 4000000 in
set_option maxRecDepth 100000 in
theorem k_q_countRefusedOf (l : Launch) (D : va_G) (a : Nat → Nat) (kI kZ : ClassId) (jn : Int32) (H0 : Heap) : rl_Ri l ⟨"RightsLimit$Requests", "countRefusedOf", "(I)I"⟩ (Cond.code ⟨"RightsLimit$Requests", "countRefusedOf", "(I)I"⟩ prog_4_method_15_code 4 (some .int) :: rl_G) { frames := 0, cells := 0, slots := 0, locals := 0 } D rl_cl (rl_tys kI kZ) [] [.ref (a 4), .int jn] (rl_w a kI kZ rl_F0) H0 (fun (r : Int32) => r.toInt = 0) := by
  refine rl_metr (cc := prog_4_method_15_code) (maxL := 4) (ret := (some .int)) (by decide) rfl (Nat.le_of_ble_eq_true rfl) ?_
  intro p e s m below meth c ls hx hb hr hml hown hts hlocks hP hK hS hN hl
  have hown : s.vm.findClass "RightsLimit$Requests" = some m.cls := hown
  have hG : ∀ x ∈ rl_G, x.before _ s = true := fun x h => hts x (List.mem_cons_of_mem _ h)
  have hl : lv_has ls 4 [(0, .ref (a 4)), (1, .int jn)] := hl
  refine lv_iconst (v := 0) hx hb d_q_countRefusedOf_0 (by decide) ?_
  refine lv_istore_n (lv' := [(2, .int 0), (0, .ref (a 4)), (1, .int jn)]) hx hb d_q_countRefusedOf_1 rfl hl (by decide) rfl (fun ls hl => ?_)
  refine lv_iconst (v := 0) hx hb d_q_countRefusedOf_2 (by decide) ?_
  refine lv_istore_n (lv' := [(3, .int 0), (2, .int 0), (0, .ref (a 4)), (1, .int jn)]) hx hb d_q_countRefusedOf_3 rfl hl (by decide) rfl (fun ls hl => ?_)
  refine lv_iload_n hx hb d_q_countRefusedOf_4 rfl (lv_at hl 0 rfl) ?_
  refine lv_aload_n hx hb d_q_countRefusedOf_5 rfl (lv_at hl 2 rfl) ?_
  refine va_get (D := D) (ci := 4) (v := .int 0) (C := "RightsLimit$Requests") (T := fT_q) (N := 13) hx hb hG fi_q hown hK hP 4 rfl rfl 12 (by decide) (hG _ wd_140) (fun _ h9 => h9) rfl d_q_countRefusedOf_6 ?_
  refine lv_icmp_ge (tgt := 39) hx hb d_q_countRefusedOf_9 (by decide) (fun _ => ?_) (fun c9 => absurd c9 (by decide))
  refine lv_iload_n hx hb d_q_countRefusedOf_39 rfl (lv_at hl 1 rfl) ?_
  exact W.iret (v := 0) hx hb hr (fun t ht hW => ⟨⟨0, (), rfl, (show (0 : Int32).toInt = 0 by have q9 := rl_n0; omega), ht⟩, hS.F ht⟩) hS.2.2 d_q_countRefusedOf_40
set_option maxHeartbeats 4000000 in
set_option maxRecDepth 100000 in
theorem k_q_pagesAllowedTo (l : Launch) (D : va_G) (a : Nat → Nat) (kI kZ : ClassId) (jn : Int32) (H0 : Heap) : rl_Ri l ⟨"RightsLimit$Requests", "pagesAllowedTo", "(I)I"⟩ (Cond.code ⟨"RightsLimit$Requests", "pagesAllowedTo", "(I)I"⟩ prog_4_method_16_code 4 (some .int) :: rl_G) { frames := 0, cells := 0, slots := 0, locals := 0 } D rl_cl (rl_tys kI kZ) [] [.ref (a 4), .int jn] (rl_w a kI kZ rl_F0) H0 (fun (r : Int32) => r.toInt = 0) := by
  refine rl_metr (cc := prog_4_method_16_code) (maxL := 4) (ret := (some .int)) (by decide) rfl (Nat.le_of_ble_eq_true rfl) ?_
  intro p e s m below meth c ls hx hb hr hml hown hts hlocks hP hK hS hN hl
  have hown : s.vm.findClass "RightsLimit$Requests" = some m.cls := hown
  have hG : ∀ x ∈ rl_G, x.before _ s = true := fun x h => hts x (List.mem_cons_of_mem _ h)
  have hl : lv_has ls 4 [(0, .ref (a 4)), (1, .int jn)] := hl
  refine lv_iconst (v := 0) hx hb d_q_pagesAllowedTo_0 (by decide) ?_
  refine lv_istore_n (lv' := [(2, .int 0), (0, .ref (a 4)), (1, .int jn)]) hx hb d_q_pagesAllowedTo_1 rfl hl (by decide) rfl (fun ls hl => ?_)
  refine lv_iconst (v := 0) hx hb d_q_pagesAllowedTo_2 (by decide) ?_
  refine lv_istore_n (lv' := [(3, .int 0), (2, .int 0), (0, .ref (a 4)), (1, .int jn)]) hx hb d_q_pagesAllowedTo_3 rfl hl (by decide) rfl (fun ls hl => ?_)
  refine lv_iload_n hx hb d_q_pagesAllowedTo_4 rfl (lv_at hl 0 rfl) ?_
  refine lv_aload_n hx hb d_q_pagesAllowedTo_5 rfl (lv_at hl 2 rfl) ?_
  refine va_get (D := D) (ci := 4) (v := .int 0) (C := "RightsLimit$Requests") (T := fT_q) (N := 13) hx hb hG fi_q hown hK hP 4 rfl rfl 12 (by decide) (hG _ wd_140) (fun _ h9 => h9) rfl d_q_pagesAllowedTo_6 ?_
  refine lv_icmp_ge (tgt := 45) hx hb d_q_pagesAllowedTo_9 (by decide) (fun _ => ?_) (fun c9 => absurd c9 (by decide))
  refine lv_iload_n hx hb d_q_pagesAllowedTo_45 rfl (lv_at hl 1 rfl) ?_
  exact W.iret (v := 0) hx hb hr (fun t ht hW => ⟨⟨0, (), rfl, (show (0 : Int32).toInt = 0 by have q9 := rl_n0; omega), ht⟩, hS.F ht⟩) hS.2.2 d_q_pagesAllowedTo_46
set_option maxHeartbeats 4000000 in
set_option maxRecDepth 100000 in
theorem k_q_centsOf (l : Launch) (D : va_G) (a : Nat → Nat) (kI kZ : ClassId) (jn : Int32) (H0 : Heap) : rl_Ri l ⟨"RightsLimit$Requests", "centsOf", "(I)I"⟩ (Cond.code ⟨"RightsLimit$Requests", "centsOf", "(I)I"⟩ prog_4_method_17_code 4 (some .int) :: rl_G) { frames := 0, cells := 0, slots := 0, locals := 0 } D rl_cl (rl_tys kI kZ) [] [.ref (a 4), .int jn] (rl_w a kI kZ rl_F0) H0 (fun (r : Int32) => r.toInt = 0) := by
  refine rl_metr (cc := prog_4_method_17_code) (maxL := 4) (ret := (some .int)) (by decide) rfl (Nat.le_of_ble_eq_true rfl) ?_
  intro p e s m below meth c ls hx hb hr hml hown hts hlocks hP hK hS hN hl
  have hown : s.vm.findClass "RightsLimit$Requests" = some m.cls := hown
  have hG : ∀ x ∈ rl_G, x.before _ s = true := fun x h => hts x (List.mem_cons_of_mem _ h)
  have hl : lv_has ls 4 [(0, .ref (a 4)), (1, .int jn)] := hl
  refine lv_iconst (v := 0) hx hb d_q_centsOf_0 (by decide) ?_
  refine lv_istore_n (lv' := [(2, .int 0), (0, .ref (a 4)), (1, .int jn)]) hx hb d_q_centsOf_1 rfl hl (by decide) rfl (fun ls hl => ?_)
  refine lv_iconst (v := 0) hx hb d_q_centsOf_2 (by decide) ?_
  refine lv_istore_n (lv' := [(3, .int 0), (2, .int 0), (0, .ref (a 4)), (1, .int jn)]) hx hb d_q_centsOf_3 rfl hl (by decide) rfl (fun ls hl => ?_)
  refine lv_iload_n hx hb d_q_centsOf_4 rfl (lv_at hl 0 rfl) ?_
  refine lv_aload_n hx hb d_q_centsOf_5 rfl (lv_at hl 2 rfl) ?_
  refine va_get (D := D) (ci := 4) (v := .int 0) (C := "RightsLimit$Requests") (T := fT_q) (N := 13) hx hb hG fi_q hown hK hP 4 rfl rfl 12 (by decide) (hG _ wd_140) (fun _ h9 => h9) rfl d_q_centsOf_6 ?_
  refine lv_icmp_ge (tgt := 37) hx hb d_q_centsOf_9 (by decide) (fun _ => ?_) (fun c9 => absurd c9 (by decide))
  refine lv_iload_n hx hb d_q_centsOf_37 rfl (lv_at hl 1 rfl) ?_
  exact W.iret (v := 0) hx hb hr (fun t ht hW => ⟨⟨0, (), rfl, (show (0 : Int32).toInt = 0 by have q9 := rl_n0; omega), ht⟩, hS.F ht⟩) hS.2.2 d_q_centsOf_38
set_option maxHeartbeats 4000000 in
set_option maxRecDepth 100000 in
theorem k_q_endedAt (l : Launch) (D : va_G) (a : Nat → Nat) (kI kZ : ClassId) (jt jn : Int32) (H0 : Heap) : rl_Ri l ⟨"RightsLimit$Requests", "endedAt", "(II)I"⟩ (Cond.code ⟨"RightsLimit$Requests", "endedAt", "(II)I"⟩ prog_4_method_13_code 5 (some .int) :: rl_G) { frames := 0, cells := 0, slots := 0, locals := 0 } D rl_cl (rl_tys kI kZ) [] [.ref (a 4), .int jt, .int jn] (rl_w a kI kZ rl_F0) H0 (fun (r : Int32) => r = -1) := by
  refine rl_metr (cc := prog_4_method_13_code) (maxL := 5) (ret := (some .int)) (by decide) rfl (Nat.le_of_ble_eq_true rfl) ?_
  intro p e s m below meth c ls hx hb hr hml hown hts hlocks hP hK hS hN hl
  have hown : s.vm.findClass "RightsLimit$Requests" = some m.cls := hown
  have hG : ∀ x ∈ rl_G, x.before _ s = true := fun x h => hts x (List.mem_cons_of_mem _ h)
  have hl : lv_has ls 5 [(0, .ref (a 4)), (1, .int jt), (2, .int jn)] := hl
  refine lv_iconst (v := 0) hx hb d_q_endedAt_0 (by decide) ?_
  refine lv_istore_n (lv' := [(3, .int 0), (0, .ref (a 4)), (1, .int jt), (2, .int jn)]) hx hb d_q_endedAt_1 rfl hl (by decide) rfl (fun ls hl => ?_)
  refine lv_iconst (v := 0) hx hb d_q_endedAt_2 (by decide) ?_
  refine lv_istore (lv' := [(4, .int 0), (3, .int 0), (0, .ref (a 4)), (1, .int jt), (2, .int jn)]) hx hb d_q_endedAt_3 hl (by decide) rfl (fun ls hl => ?_)
  refine lv_iload hx hb d_q_endedAt_5 (lv_at hl 0 rfl) ?_
  refine lv_aload_n hx hb d_q_endedAt_7 rfl (lv_at hl 2 rfl) ?_
  refine va_get (D := D) (ci := 4) (v := .int 0) (C := "RightsLimit$Requests") (T := fT_q) (N := 13) hx hb hG fi_q hown hK hP 4 rfl rfl 12 (by decide) (hG _ wd_140) (fun _ h9 => h9) rfl d_q_endedAt_8 ?_
  refine lv_icmp_ge (tgt := 50) hx hb d_q_endedAt_11 (by decide) (fun _ => ?_) (fun c9 => absurd c9 (by decide))
  refine lv_iconst (v := (-1)) hx hb d_q_endedAt_50 (by decide) ?_
  exact W.iret (v := (-1)) hx hb hr (fun t ht hW => ⟨⟨(-1), (), rfl, rfl, ht⟩, hS.F ht⟩) hS.2.2 d_q_endedAt_51
set_option maxHeartbeats 4000000 in
set_option maxRecDepth 100000 in
theorem k_x_title (l : Launch) (D : va_G) (a : Nat → Nat) (kI kZ : ClassId) (jp : Int32) (sz : Nat) : rl_Ci (S := Nat → Nat → Int32) l ⟨"RightsLimit", "title", "(I)I"⟩ (Cond.code ⟨"RightsLimit", "title", "(I)I"⟩ prog_1_method_2_code 2 (some .int) :: rl_G) { frames := 2, cells := 0, slots := 0, locals := 42 } D rl_cl (rl_tys kI kZ) [] [.ref (a 0), .int jp] (rl_w a kI kZ rl_F0) sz (fun (r : Int32) (F' : Nat → Nat → Int32) => ((0 ≤ jp.toInt ∧ jp.toInt ≤ 99) ∧ r.toInt = 0) ∨ (¬ (0 ≤ jp.toInt ∧ jp.toInt ≤ 99) ∧ r.toInt = -2)) (fun F' => rl_w a kI kZ F') 0 0 := by
  refine rl_meti (cc := prog_1_method_2_code) (maxL := 2) (ret := (some .int)) (by decide) rfl (Nat.le_of_ble_eq_true rfl) ?_
  intro p e s m below meth c A ls hx hb hr hml hown hts hlocks hnm hP hK hD hS hA hN hl
  have hown : s.vm.findClass "RightsLimit" = some m.cls := hown
  have hG : ∀ x ∈ rl_G, x.before _ s = true := fun x h => hts x (List.mem_cons_of_mem _ h)
  have hl : lv_has ls 2 [(0, .ref (a 0)), (1, .int jp)] := hl
  refine lv_iload_n hx hb d_x_title_0 rfl (lv_at hl 1 rfl) ?_
  refine rl_callr hS (va_runS (As := [.int jp]) (rest := []) ⟨hx, hb, hml, hown, hG⟩ (k_x_isPublisher l D a kI kZ jp _) (cwS 1 hG (rl_gS wd_197 wd_198 wd_14 wd_199) rfl rfl rfl (by decide +kernel) ⟨Nat.le_of_ble_eq_true rfl, Nat.le_of_ble_eq_true rfl⟩) (rl_BR.pre rl_nw0 rl_P0 hK hN) rfl rfl hl.1 rfl (lv_room (Nat.le_of_ble_eq_true rfl)) d_x_title_1 ⟨Nat.le_of_ble_eq_true rfl, Nat.le_of_ble_eq_true rfl⟩) (fun r locs hw hS => ?_)
  rcases hw with ⟨rfl, h1⟩ | ⟨rfl, h1⟩
  · refine lv_if_ne (tgt := 10) hx hb d_x_title_4 (by decide) (fun _ => ?_) (fun c9 => absurd c9 (by decide))
    refine lv_aload_n hx hb d_x_title_10 rfl (lv_at hl 0 rfl) ?_
    refine va_get (D := D) (ci := 0) (v := .ref (a 1)) (C := "RightsLimit") (T := fT_x) (N := 8) hx hb hG fi_x hown hK hP 0 rfl rfl 0 (by decide) (hG _ wd_168) (fun _ h9 => h9) rfl d_x_title_11 ?_
    refine lv_iload_n hx hb d_x_title_14 rfl (lv_at hl 1 rfl) ?_
    have hpre := rl_B.pre (av := .ref (a 1) :: [.int jp]) rl_nw0 hP hK hD hN
    refine rl_calli0 hP hD hS hA (va_runV (As := [.int jp]) (rest := []) ⟨hx, hb, hml, hown, hG⟩ (k_t_add l D a kI kZ jp _) (cwV 1 hG (rl_gV wd_203 wd_204 wd_205 wd_15 wd_206) rfl rfl rfl (by decide +kernel) ⟨Nat.le_of_ble_eq_true rfl, Nat.le_of_ble_eq_true rfl⟩) ⟨hpre.1, (va_recv hK hP (ci := 1) (q0 := 1) rfl rfl), hpre.2⟩ rfl rfl hl.1 rfl (lv_room (Nat.le_of_ble_eq_true rfl)) d_x_title_15 ⟨Nat.le_of_ble_eq_true rfl, Nat.le_of_ble_eq_true rfl⟩) (fun r F2 H locs hw hP hD hS => ?_)
    have hP : va_P D rl_cl (rl_w a kI kZ F2) H := hP
    have hD : va_D A (rl_w a kI kZ F2) := hD
    obtain ⟨r3, er3⟩ : ∃ q, q = r := ⟨_, rfl⟩
    rw [← er3] at hw ⊢
    have hwr3 := hw
    exact W.iret (v := r3) hx hb hr (fun t ht hW => ⟨⟨r3, F2, rfl, (show ((0 ≤ jp.toInt ∧ jp.toInt ≤ 99) ∧ r3.toInt = 0) ∨ (¬ (0 ≤ jp.toInt ∧ jp.toInt ≤ 99) ∧ r3.toInt = -2) by omega), ⟨by rw [ht]; exact hP, hD⟩⟩, hS.F ht⟩) hS.2.2 d_x_title_18
  · refine lv_if_ne (tgt := 10) hx hb d_x_title_4 (by decide) (fun c9 => absurd c9 (by decide)) (fun _ => ?_)
    refine lv_bipush (v := (-2)) hx hb d_x_title_7 (by decide) ?_
    exact W.iret (v := (-2)) hx hb hr (fun t ht hW => ⟨⟨(-2), rl_F0, rfl, (show ((0 ≤ jp.toInt ∧ jp.toInt ≤ 99) ∧ ((-2) : Int32).toInt = 0) ∨ (¬ (0 ≤ jp.toInt ∧ jp.toInt ≤ 99) ∧ ((-2) : Int32).toInt = -2) by have q9 := rl_nm2; omega), ⟨by rw [ht]; exact hP, hD⟩⟩, hS.F ht⟩) hS.2.2 d_x_title_9
set_option maxHeartbeats 4000000 in
set_option maxRecDepth 100000 in
theorem k_x_open (l : Launch) (D : va_G) (a : Nat → Nat) (kI kZ : ClassId) (jt jb : Int32) (H0 : Heap) : rl_Ri l ⟨"RightsLimit", "open", "(IZ)I"⟩ (Cond.code ⟨"RightsLimit", "open", "(IZ)I"⟩ prog_1_method_3_code 3 (some .int) :: rl_G) { frames := 1, cells := 0, slots := 0, locals := 21 } D rl_cl (rl_tys kI kZ) [] [.ref (a 0), .int jt, .int jb] (rl_w a kI kZ rl_F0) H0 (fun (r : Int32) => r.toInt = -1) := by
  refine rl_metr (cc := prog_1_method_3_code) (maxL := 3) (ret := (some .int)) (by decide) rfl (Nat.le_of_ble_eq_true rfl) ?_
  intro p e s m below meth c ls hx hb hr hml hown hts hlocks hP hK hS hN hl
  have hown : s.vm.findClass "RightsLimit" = some m.cls := hown
  have hG : ∀ x ∈ rl_G, x.before _ s = true := fun x h => hts x (List.mem_cons_of_mem _ h)
  have hl : lv_has ls 3 [(0, .ref (a 0)), (1, .int jt), (2, .int jb)] := hl
  refine lv_aload_n hx hb d_x_open_0 rfl (lv_at hl 0 rfl) ?_
  refine va_get (D := D) (ci := 0) (v := .ref (a 1)) (C := "RightsLimit") (T := fT_x) (N := 8) hx hb hG fi_x hown hK hP 0 rfl rfl 0 (by decide) (hG _ wd_168) (fun _ h9 => h9) rfl d_x_open_1 ?_
  refine lv_iload_n hx hb d_x_open_4 rfl (lv_at hl 1 rfl) ?_
  have hpre := rl_BR.pre (av := .ref (a 1) :: [.int jt]) rl_nw0 hP hK hN
  refine rl_callr hS (va_runV (As := [.int jt]) (rest := []) ⟨hx, hb, hml, hown, hG⟩ (k_t_has l D a kI kZ jt _) (cwV 1 hG (rl_gV wd_211 wd_212 wd_213 wd_15 wd_214) rfl rfl rfl (by decide +kernel) ⟨Nat.le_of_ble_eq_true rfl, Nat.le_of_ble_eq_true rfl⟩) ⟨hpre.1, (va_recv hK hP (ci := 1) (q0 := 1) rfl rfl), hpre.2⟩ rfl rfl hl.1 rfl (lv_room (Nat.le_of_ble_eq_true rfl)) d_x_open_5 ⟨Nat.le_of_ble_eq_true rfl, Nat.le_of_ble_eq_true rfl⟩) (fun r locs hw hS => ?_)
  obtain rfl := hw
  refine lv_if_ne (tgt := 13) hx hb d_x_open_8 (by decide) (fun c9 => absurd c9 (by decide)) (fun _ => ?_)
  refine lv_iconst (v := (-1)) hx hb d_x_open_11 (by decide) ?_
  exact W.iret (v := (-1)) hx hb hr (fun t ht hW => ⟨⟨(-1), (), rfl, (show ((-1) : Int32).toInt = -1 by have q9 := rl_nm1; omega), ht⟩, hS.F ht⟩) hS.2.2 d_x_open_12
set_option maxHeartbeats 4000000 in
set_option maxRecDepth 100000 in
theorem k_x_limit (l : Launch) (D : va_G) (a : Nat → Nat) (kI kZ : ClassId) (jt jk jd jn : Int32) (H0 : Heap) : rl_Ri l ⟨"RightsLimit", "limit", "(IIII)I"⟩ (Cond.code ⟨"RightsLimit", "limit", "(IIII)I"⟩ prog_1_method_4_code 5 (some .int) :: rl_G) { frames := 1, cells := 0, slots := 0, locals := 21 } D rl_cl (rl_tys kI kZ) [] [.ref (a 0), .int jt, .int jk, .int jd, .int jn] (rl_w a kI kZ rl_F0) H0 (fun (r : Int32) => r.toInt = -1) := by
  refine rl_metr (cc := prog_1_method_4_code) (maxL := 5) (ret := (some .int)) (by decide) rfl (Nat.le_of_ble_eq_true rfl) ?_
  intro p e s m below meth c ls hx hb hr hml hown hts hlocks hP hK hS hN hl
  have hown : s.vm.findClass "RightsLimit" = some m.cls := hown
  have hG : ∀ x ∈ rl_G, x.before _ s = true := fun x h => hts x (List.mem_cons_of_mem _ h)
  have hl : lv_has ls 5 [(0, .ref (a 0)), (1, .int jt), (2, .int jk), (3, .int jd), (4, .int jn)] := hl
  refine lv_aload_n hx hb d_x_limit_0 rfl (lv_at hl 0 rfl) ?_
  refine va_get (D := D) (ci := 0) (v := .ref (a 1)) (C := "RightsLimit") (T := fT_x) (N := 8) hx hb hG fi_x hown hK hP 0 rfl rfl 0 (by decide) (hG _ wd_168) (fun _ h9 => h9) rfl d_x_limit_1 ?_
  refine lv_iload_n hx hb d_x_limit_4 rfl (lv_at hl 1 rfl) ?_
  have hpre := rl_BR.pre (av := .ref (a 1) :: [.int jt]) rl_nw0 hP hK hN
  refine rl_callr hS (va_runV (As := [.int jt]) (rest := []) ⟨hx, hb, hml, hown, hG⟩ (k_t_has l D a kI kZ jt _) (cwV 1 hG (rl_gV wd_211 wd_212 wd_213 wd_15 wd_214) rfl rfl rfl (by decide +kernel) ⟨Nat.le_of_ble_eq_true rfl, Nat.le_of_ble_eq_true rfl⟩) ⟨hpre.1, (va_recv hK hP (ci := 1) (q0 := 1) rfl rfl), hpre.2⟩ rfl rfl hl.1 rfl (lv_room (Nat.le_of_ble_eq_true rfl)) d_x_limit_5 ⟨Nat.le_of_ble_eq_true rfl, Nat.le_of_ble_eq_true rfl⟩) (fun r locs hw hS => ?_)
  obtain rfl := hw
  refine lv_if_ne (tgt := 13) hx hb d_x_limit_8 (by decide) (fun c9 => absurd c9 (by decide)) (fun _ => ?_)
  refine lv_iconst (v := (-1)) hx hb d_x_limit_11 (by decide) ?_
  exact W.iret (v := (-1)) hx hb hr (fun t ht hW => ⟨⟨(-1), (), rfl, (show ((-1) : Int32).toInt = -1 by have q9 := rl_nm1; omega), ht⟩, hS.F ht⟩) hS.2.2 d_x_limit_12
set_option maxHeartbeats 4000000 in
set_option maxRecDepth 100000 in
theorem k_x_licence (l : Launch) (D : va_G) (a : Nat → Nat) (kI kZ : ClassId) (jt jk jn ju jv : Int32) (H0 : Heap) : rl_Ri l ⟨"RightsLimit", "licence", "(IIIII)I"⟩ (Cond.code ⟨"RightsLimit", "licence", "(IIIII)I"⟩ prog_1_method_5_code 6 (some .int) :: rl_G) { frames := 1, cells := 0, slots := 0, locals := 21 } D rl_cl (rl_tys kI kZ) [] [.ref (a 0), .int jt, .int jk, .int jn, .int ju, .int jv] (rl_w a kI kZ rl_F0) H0 (fun (r : Int32) => r.toInt = -1) := by
  refine rl_metr (cc := prog_1_method_5_code) (maxL := 6) (ret := (some .int)) (by decide) rfl (Nat.le_of_ble_eq_true rfl) ?_
  intro p e s m below meth c ls hx hb hr hml hown hts hlocks hP hK hS hN hl
  have hown : s.vm.findClass "RightsLimit" = some m.cls := hown
  have hG : ∀ x ∈ rl_G, x.before _ s = true := fun x h => hts x (List.mem_cons_of_mem _ h)
  have hl : lv_has ls 6 [(0, .ref (a 0)), (1, .int jt), (2, .int jk), (3, .int jn), (4, .int ju), (5, .int jv)] := hl
  refine lv_aload_n hx hb d_x_licence_0 rfl (lv_at hl 0 rfl) ?_
  refine va_get (D := D) (ci := 0) (v := .ref (a 1)) (C := "RightsLimit") (T := fT_x) (N := 8) hx hb hG fi_x hown hK hP 0 rfl rfl 0 (by decide) (hG _ wd_168) (fun _ h9 => h9) rfl d_x_licence_1 ?_
  refine lv_iload_n hx hb d_x_licence_4 rfl (lv_at hl 1 rfl) ?_
  have hpre := rl_BR.pre (av := .ref (a 1) :: [.int jt]) rl_nw0 hP hK hN
  refine rl_callr hS (va_runV (As := [.int jt]) (rest := []) ⟨hx, hb, hml, hown, hG⟩ (k_t_has l D a kI kZ jt _) (cwV 1 hG (rl_gV wd_211 wd_212 wd_213 wd_15 wd_214) rfl rfl rfl (by decide +kernel) ⟨Nat.le_of_ble_eq_true rfl, Nat.le_of_ble_eq_true rfl⟩) ⟨hpre.1, (va_recv hK hP (ci := 1) (q0 := 1) rfl rfl), hpre.2⟩ rfl rfl hl.1 rfl (lv_room (Nat.le_of_ble_eq_true rfl)) d_x_licence_5 ⟨Nat.le_of_ble_eq_true rfl, Nat.le_of_ble_eq_true rfl⟩) (fun r locs hw hS => ?_)
  obtain rfl := hw
  refine lv_if_ne (tgt := 13) hx hb d_x_licence_8 (by decide) (fun c9 => absurd c9 (by decide)) (fun _ => ?_)
  refine lv_iconst (v := (-1)) hx hb d_x_licence_11 (by decide) ?_
  exact W.iret (v := (-1)) hx hb hr (fun t ht hW => ⟨⟨(-1), (), rfl, (show ((-1) : Int32).toInt = -1 by have q9 := rl_nm1; omega), ht⟩, hS.F ht⟩) hS.2.2 d_x_licence_12
set_option maxHeartbeats 4000000 in
set_option maxRecDepth 100000 in
theorem k_x_fee (l : Launch) (D : va_G) (a : Nat → Nat) (kI kZ : ClassId) (jp jn : Int32) (sz : Nat) : rl_Ci (S := Nat → Nat → Int32) l ⟨"RightsLimit", "fee", "(II)I"⟩ (Cond.code ⟨"RightsLimit", "fee", "(II)I"⟩ prog_1_method_6_code 3 (some .int) :: rl_G) { frames := 2, cells := 0, slots := 0, locals := 42 } D rl_cl (rl_tys kI kZ) [] [.ref (a 0), .int jp, .int jn] (rl_w a kI kZ rl_F0) sz (fun (r : Int32) (F' : Nat → Nat → Int32) => (((0 ≤ jp.toInt ∧ jp.toInt ≤ 99) ∧ (0 ≤ jn.toInt ∧ jn.toInt ≤ 10000)) ∧ r.toInt = 1) ∨ (¬ ((0 ≤ jp.toInt ∧ jp.toInt ≤ 99) ∧ (0 ≤ jn.toInt ∧ jn.toInt ≤ 10000)) ∧ r.toInt = -2)) (fun F' => rl_w a kI kZ F') 0 0 := by
  refine rl_meti (cc := prog_1_method_6_code) (maxL := 3) (ret := (some .int)) (by decide) rfl (Nat.le_of_ble_eq_true rfl) ?_
  intro p e s m below meth c A ls hx hb hr hml hown hts hlocks hnm hP hK hD hS hA hN hl
  have hown : s.vm.findClass "RightsLimit" = some m.cls := hown
  have hG : ∀ x ∈ rl_G, x.before _ s = true := fun x h => hts x (List.mem_cons_of_mem _ h)
  have hl : lv_has ls 3 [(0, .ref (a 0)), (1, .int jp), (2, .int jn)] := hl
  refine lv_iload_n hx hb d_x_fee_0 rfl (lv_at hl 1 rfl) ?_
  refine rl_callr hS (va_runS (As := [.int jp]) (rest := []) ⟨hx, hb, hml, hown, hG⟩ (k_x_isPublisher l D a kI kZ jp _) (cwS 1 hG (rl_gS wd_197 wd_198 wd_14 wd_199) rfl rfl rfl (by decide +kernel) ⟨Nat.le_of_ble_eq_true rfl, Nat.le_of_ble_eq_true rfl⟩) (rl_BR.pre rl_nw0 rl_P0 hK hN) rfl rfl hl.1 rfl (lv_room (Nat.le_of_ble_eq_true rfl)) d_x_fee_1 ⟨Nat.le_of_ble_eq_true rfl, Nat.le_of_ble_eq_true rfl⟩) (fun r locs hw hS => ?_)
  rcases hw with ⟨rfl, h1⟩ | ⟨rfl, h1⟩
  · refine lv_if_eq (tgt := 18) hx hb d_x_fee_4 (by decide) (fun c9 => absurd c9 (by decide)) (fun _ => ?_)
    refine lv_iload_n hx hb d_x_fee_7 rfl (lv_at hl 2 rfl) ?_
    refine lv_iconst (v := 0) hx hb d_x_fee_8 (by decide) ?_
    refine lv_sipush (v := 10000) hx hb d_x_fee_9 (by decide) ?_
    refine rl_callr hS (va_runS (As := [.int jn, .int 0, .int 10000]) (rest := []) ⟨hx, hb, hml, hown, hG⟩ (k_x_isBetween l D a kI kZ jn 0 10000 _) (cwS 3 hG (rl_gS wd_200 wd_201 wd_14 wd_202) rfl rfl rfl (by decide +kernel) ⟨Nat.le_of_ble_eq_true rfl, Nat.le_of_ble_eq_true rfl⟩) (rl_BR.pre rl_nw0 rl_P0 hK hN) rfl rfl hl.1 rfl (lv_room (Nat.le_of_ble_eq_true rfl)) d_x_fee_12 ⟨Nat.le_of_ble_eq_true rfl, Nat.le_of_ble_eq_true rfl⟩) (fun r locs hw hS => ?_)
    try simp only [rl_n0, rl_n10000] at hw
    rcases hw with ⟨rfl, h2⟩ | ⟨rfl, h2⟩
    · refine lv_if_ne (tgt := 21) hx hb d_x_fee_15 (by decide) (fun _ => ?_) (fun c9 => absurd c9 (by decide))
      refine lv_aload_n hx hb d_x_fee_21 rfl (lv_at hl 0 rfl) ?_
      refine va_get (D := D) (ci := 0) (v := .ref (a 30)) (C := "RightsLimit") (T := fT_x) (N := 8) hx hb hG fi_x hown hK hP 0 rfl rfl 4 (by decide) (hG _ wd_172) (fun _ h9 => h9) rfl d_x_fee_22 ?_
      refine lv_iload_n hx hb d_x_fee_25 rfl (lv_at hl 1 rfl) ?_
      refine lv_iload_n hx hb d_x_fee_26 rfl (lv_at hl 2 rfl) ?_
      refine va_iast hx hb hK hP hD hS 30 0 rfl rfl (rl_in (n := 100) (by omega) (by omega)) d_x_fee_27 (fun H locs hP hD hS => ?_)
      have hP : va_P D rl_cl (rl_w a kI kZ (rl_st rl_F0 25 jp.toNatClampNeg jn)) H := hP
      have hD : va_D A (rl_w a kI kZ (rl_st rl_F0 25 jp.toNatClampNeg jn)) := hD
      refine lv_iconst (v := 1) hx hb d_x_fee_28 (by decide) ?_
      exact W.iret (v := 1) hx hb hr (fun t ht hW => ⟨⟨1, (rl_st rl_F0 25 jp.toNatClampNeg jn), rfl, (show (((0 ≤ jp.toInt ∧ jp.toInt ≤ 99) ∧ (0 ≤ jn.toInt ∧ jn.toInt ≤ 10000)) ∧ (1 : Int32).toInt = 1) ∨ (¬ ((0 ≤ jp.toInt ∧ jp.toInt ≤ 99) ∧ (0 ≤ jn.toInt ∧ jn.toInt ≤ 10000)) ∧ (1 : Int32).toInt = -2) by have q9 := rl_n1; omega), ⟨by rw [ht]; exact hP, hD⟩⟩, hS.F ht⟩) hS.2.2 d_x_fee_29
    · refine lv_if_ne (tgt := 21) hx hb d_x_fee_15 (by decide) (fun c9 => absurd c9 (by decide)) (fun _ => ?_)
      refine lv_bipush (v := (-2)) hx hb d_x_fee_18 (by decide) ?_
      exact W.iret (v := (-2)) hx hb hr (fun t ht hW => ⟨⟨(-2), rl_F0, rfl, (show (((0 ≤ jp.toInt ∧ jp.toInt ≤ 99) ∧ (0 ≤ jn.toInt ∧ jn.toInt ≤ 10000)) ∧ ((-2) : Int32).toInt = 1) ∨ (¬ ((0 ≤ jp.toInt ∧ jp.toInt ≤ 99) ∧ (0 ≤ jn.toInt ∧ jn.toInt ≤ 10000)) ∧ ((-2) : Int32).toInt = -2) by have q9 := rl_nm2; omega), ⟨by rw [ht]; exact hP, hD⟩⟩, hS.F ht⟩) hS.2.2 d_x_fee_20
  · refine lv_if_eq (tgt := 18) hx hb d_x_fee_4 (by decide) (fun _ => ?_) (fun c9 => absurd c9 (by decide))
    refine lv_bipush (v := (-2)) hx hb d_x_fee_18 (by decide) ?_
    exact W.iret (v := (-2)) hx hb hr (fun t ht hW => ⟨⟨(-2), rl_F0, rfl, (show (((0 ≤ jp.toInt ∧ jp.toInt ≤ 99) ∧ (0 ≤ jn.toInt ∧ jn.toInt ≤ 10000)) ∧ ((-2) : Int32).toInt = 1) ∨ (¬ ((0 ≤ jp.toInt ∧ jp.toInt ≤ 99) ∧ (0 ≤ jn.toInt ∧ jn.toInt ≤ 10000)) ∧ ((-2) : Int32).toInt = -2) by have q9 := rl_nm2; omega), ⟨by rw [ht]; exact hP, hD⟩⟩, hS.F ht⟩) hS.2.2 d_x_fee_20
set_option maxHeartbeats 4000000 in
set_option maxRecDepth 100000 in
theorem k_x_ask (l : Launch) (D : va_G) (a : Nat → Nat) (kI kZ : ClassId) (jn jt jk jg ju : Int32) (H0 : Heap) : rl_Ri l ⟨"RightsLimit", "ask", "(IIIII)I"⟩ (Cond.code ⟨"RightsLimit", "ask", "(IIIII)I"⟩ prog_1_method_7_code 7 (some .int) :: rl_G) { frames := 1, cells := 0, slots := 0, locals := 21 } D rl_cl (rl_tys kI kZ) [] [.ref (a 0), .int jn, .int jt, .int jk, .int jg, .int ju] (rl_w a kI kZ rl_F0) H0 (fun (r : Int32) => r.toInt = -1) := by
  refine rl_metr (cc := prog_1_method_7_code) (maxL := 7) (ret := (some .int)) (by decide) rfl (Nat.le_of_ble_eq_true rfl) ?_
  intro p e s m below meth c ls hx hb hr hml hown hts hlocks hP hK hS hN hl
  have hown : s.vm.findClass "RightsLimit" = some m.cls := hown
  have hG : ∀ x ∈ rl_G, x.before _ s = true := fun x h => hts x (List.mem_cons_of_mem _ h)
  have hl : lv_has ls 7 [(0, .ref (a 0)), (1, .int jn), (2, .int jt), (3, .int jk), (4, .int jg), (5, .int ju)] := hl
  refine lv_aload_n hx hb d_x_ask_0 rfl (lv_at hl 0 rfl) ?_
  refine va_get (D := D) (ci := 0) (v := .ref (a 1)) (C := "RightsLimit") (T := fT_x) (N := 8) hx hb hG fi_x hown hK hP 0 rfl rfl 0 (by decide) (hG _ wd_168) (fun _ h9 => h9) rfl d_x_ask_1 ?_
  refine lv_iload_n hx hb d_x_ask_4 rfl (lv_at hl 2 rfl) ?_
  have hpre := rl_BR.pre (av := .ref (a 1) :: [.int jt]) rl_nw0 hP hK hN
  refine rl_callr hS (va_runV (As := [.int jt]) (rest := []) ⟨hx, hb, hml, hown, hG⟩ (k_t_has l D a kI kZ jt _) (cwV 1 hG (rl_gV wd_211 wd_212 wd_213 wd_15 wd_214) rfl rfl rfl (by decide +kernel) ⟨Nat.le_of_ble_eq_true rfl, Nat.le_of_ble_eq_true rfl⟩) ⟨hpre.1, (va_recv hK hP (ci := 1) (q0 := 1) rfl rfl), hpre.2⟩ rfl rfl hl.1 rfl (lv_room (Nat.le_of_ble_eq_true rfl)) d_x_ask_5 ⟨Nat.le_of_ble_eq_true rfl, Nat.le_of_ble_eq_true rfl⟩) (fun r locs hw hS => ?_)
  obtain rfl := hw
  refine lv_if_ne (tgt := 13) hx hb d_x_ask_8 (by decide) (fun c9 => absurd c9 (by decide)) (fun _ => ?_)
  refine lv_iconst (v := (-1)) hx hb d_x_ask_11 (by decide) ?_
  exact W.iret (v := (-1)) hx hb hr (fun t ht hW => ⟨⟨(-1), (), rfl, (show ((-1) : Int32).toInt = -1 by have q9 := rl_nm1; omega), ht⟩, hS.F ht⟩) hS.2.2 d_x_ask_12
set_option maxHeartbeats 4000000 in
set_option maxRecDepth 100000 in
theorem k_x_why (l : Launch) (D : va_G) (a : Nat → Nat) (kI kZ : ClassId) (H0 : Heap) : rl_Ri l ⟨"RightsLimit", "why", "()I"⟩ (Cond.code ⟨"RightsLimit", "why", "()I"⟩ prog_1_method_8_code 1 (some .int) :: rl_G) { frames := 0, cells := 0, slots := 0, locals := 0 } D rl_cl (rl_tys kI kZ) [] [.ref (a 0)] (rl_w a kI kZ rl_F0) H0 (fun (r : Int32) => r.toInt = -1) := by
  refine rl_metr (cc := prog_1_method_8_code) (maxL := 1) (ret := (some .int)) (by decide) rfl (Nat.le_of_ble_eq_true rfl) ?_
  intro p e s m below meth c ls hx hb hr hml hown hts hlocks hP hK hS hN hl
  have hown : s.vm.findClass "RightsLimit" = some m.cls := hown
  have hG : ∀ x ∈ rl_G, x.before _ s = true := fun x h => hts x (List.mem_cons_of_mem _ h)
  have hl : lv_has ls 1 [(0, .ref (a 0))] := hl
  refine lv_aload_n hx hb d_x_why_0 rfl (lv_at hl 0 rfl) ?_
  refine va_get (D := D) (ci := 0) (v := .int (-1)) (C := "RightsLimit") (T := fT_x) (N := 8) hx hb hG fi_x hown hK hP 0 rfl rfl 7 (by decide) (hG _ wd_175) (fun _ h9 => h9) rfl d_x_why_1 ?_
  exact W.iret (v := (-1)) hx hb hr (fun t ht hW => ⟨⟨(-1), (), rfl, (show ((-1) : Int32).toInt = -1 by have q9 := rl_nm1; omega), ht⟩, hS.F ht⟩) hS.2.2 d_x_why_4
set_option maxHeartbeats 4000000 in
set_option maxRecDepth 100000 in
theorem k_x_give (l : Launch) (D : va_G) (a : Nat → Nat) (kI kZ : ClassId) (jn jg jb : Int32) (sz : Nat) : rl_Ci (S := Nat → Nat → Int32) l ⟨"RightsLimit", "give", "(IIZ)I"⟩ (Cond.code ⟨"RightsLimit", "give", "(IIZ)I"⟩ prog_1_method_9_code 5 (some .int) :: rl_G) { frames := 2, cells := 0, slots := 0, locals := 42 } D rl_cl (rl_tys kI kZ) [] [.ref (a 0), .int jn, .int jg, .int jb] (rl_w a kI kZ rl_F0) sz (fun (r : Int32) (F' : Nat → Nat → Int32) => (((0 ≤ jn.toInt ∧ jn.toInt ≤ 99) ∧ (1 ≤ jg.toInt ∧ jg.toInt ≤ 9)) ∧ r.toInt = 1) ∨ (¬ ((0 ≤ jn.toInt ∧ jn.toInt ≤ 99) ∧ (1 ≤ jg.toInt ∧ jg.toInt ≤ 9)) ∧ r.toInt = -2)) (fun F' => rl_w a kI kZ F') 0 0 := by
  refine rl_meti (cc := prog_1_method_9_code) (maxL := 5) (ret := (some .int)) (by decide) rfl (Nat.le_of_ble_eq_true rfl) ?_
  intro p e s m below meth c A ls hx hb hr hml hown hts hlocks hnm hP hK hD hS hA hN hl
  have hown : s.vm.findClass "RightsLimit" = some m.cls := hown
  have hG : ∀ x ∈ rl_G, x.before _ s = true := fun x h => hts x (List.mem_cons_of_mem _ h)
  have hl : lv_has ls 5 [(0, .ref (a 0)), (1, .int jn), (2, .int jg), (3, .int jb)] := hl
  refine lv_iload_n hx hb d_x_give_0 rfl (lv_at hl 1 rfl) ?_
  refine rl_callr hS (va_runS (As := [.int jn]) (rest := []) ⟨hx, hb, hml, hown, hG⟩ (k_x_isPerson l D a kI kZ jn _) (cwS 1 hG (rl_gS wd_252 wd_253 wd_14 wd_254) rfl rfl rfl (by decide +kernel) ⟨Nat.le_of_ble_eq_true rfl, Nat.le_of_ble_eq_true rfl⟩) (rl_BR.pre rl_nw0 rl_P0 hK hN) rfl rfl hl.1 rfl (lv_room (Nat.le_of_ble_eq_true rfl)) d_x_give_1 ⟨Nat.le_of_ble_eq_true rfl, Nat.le_of_ble_eq_true rfl⟩) (fun r locs hw hS => ?_)
  rcases hw with ⟨rfl, h1⟩ | ⟨rfl, h1⟩
  · refine lv_if_eq (tgt := 17) hx hb d_x_give_4 (by decide) (fun c9 => absurd c9 (by decide)) (fun _ => ?_)
    refine lv_iload_n hx hb d_x_give_7 rfl (lv_at hl 2 rfl) ?_
    refine lv_iconst (v := 1) hx hb d_x_give_8 (by decide) ?_
    refine lv_bipush (v := 9) hx hb d_x_give_9 (by decide) ?_
    refine rl_callr hS (va_runS (As := [.int jg, .int 1, .int 9]) (rest := []) ⟨hx, hb, hml, hown, hG⟩ (k_x_isBetween l D a kI kZ jg 1 9 _) (cwS 3 hG (rl_gS wd_200 wd_201 wd_14 wd_202) rfl rfl rfl (by decide +kernel) ⟨Nat.le_of_ble_eq_true rfl, Nat.le_of_ble_eq_true rfl⟩) (rl_BR.pre rl_nw0 rl_P0 hK hN) rfl rfl hl.1 rfl (lv_room (Nat.le_of_ble_eq_true rfl)) d_x_give_11 ⟨Nat.le_of_ble_eq_true rfl, Nat.le_of_ble_eq_true rfl⟩) (fun r locs hw hS => ?_)
    try simp only [rl_n1, rl_n9] at hw
    rcases hw with ⟨rfl, h2⟩ | ⟨rfl, h2⟩
    · refine lv_if_ne (tgt := 20) hx hb d_x_give_14 (by decide) (fun _ => ?_) (fun c9 => absurd c9 (by decide))
      refine lv_iconst (v := 1) hx hb d_x_give_20 (by decide) ?_
      refine lv_iload_n hx hb d_x_give_21 rfl (lv_at hl 2 rfl) ?_
      refine lv_ishl hx hb d_x_give_22 ?_
      refine lv_topi (fun v3 ev3 => ?_)
      refine lv_istore (lv' := [(4, .int v3), (0, .ref (a 0)), (1, .int jn), (2, .int jg), (3, .int jb)]) hx hb d_x_give_23 hl (by decide) rfl (fun ls hl => ?_)
      refine lv_iload_n hx hb d_x_give_25 rfl (lv_at hl 4 rfl) ?_
      refine lv_if_eq (tgt := 43) hx hb d_x_give_26 (by decide) (fun c4 => ?_) (fun c4 => ?_)
      · have ic4 := rl_ieq c4
        simp only [rl_n0] at ic4
        refine lv_aload_n hx hb d_x_give_43 rfl (lv_at hl 1 rfl) ?_
        refine va_get (D := D) (ci := 0) (v := .ref (a 31)) (C := "RightsLimit") (T := fT_x) (N := 8) hx hb hG fi_x hown hK hP 0 rfl rfl 5 (by decide) (hG _ wd_173) (fun _ h9 => h9) rfl d_x_give_44 ?_
        refine lv_iload_n hx hb d_x_give_47 rfl (lv_at hl 2 rfl) ?_
        refine lv_dup2_11 hx hb d_x_give_48 rfl rfl ?_
        refine va_iald hx hb hK hP 31 0 rfl rfl (rl_in (n := 100) (by omega) (by omega)) d_x_give_49 ?_
        refine lv_topi (fun v5 ev5 => ?_)
        refine lv_iload hx hb d_x_give_50 (lv_at hl 0 rfl) ?_
        refine lv_iconst (v := (-1)) hx hb d_x_give_52 (by decide) ?_
        refine lv_ixor hx hb d_x_give_53 ?_
        refine lv_topi (fun v6 ev6 => ?_)
        refine lv_iand hx hb d_x_give_54 ?_
        refine lv_topi (fun v7 ev7 => ?_)
        refine va_iast hx hb hK hP hD hS 31 0 rfl rfl (rl_in (n := 100) (by omega) (by omega)) d_x_give_55 (fun H locs hP hD hS => ?_)
        have hP : va_P D rl_cl (rl_w a kI kZ (rl_st rl_F0 26 jn.toNatClampNeg v7)) H := hP
        have hD : va_D A (rl_w a kI kZ (rl_st rl_F0 26 jn.toNatClampNeg v7)) := hD
        refine lv_iconst (v := 1) hx hb d_x_give_56 (by decide) ?_
        exact W.iret (v := 1) hx hb hr (fun t ht hW => ⟨⟨1, (rl_st rl_F0 26 jn.toNatClampNeg v7), rfl, (show (((0 ≤ jn.toInt ∧ jn.toInt ≤ 99) ∧ (1 ≤ jg.toInt ∧ jg.toInt ≤ 9)) ∧ (1 : Int32).toInt = 1) ∨ (¬ ((0 ≤ jn.toInt ∧ jn.toInt ≤ 99) ∧ (1 ≤ jg.toInt ∧ jg.toInt ≤ 9)) ∧ (1 : Int32).toInt = -2) by have q9 := rl_n1; omega), ⟨by rw [ht]; exact hP, hD⟩⟩, hS.F ht⟩) hS.2.2 d_x_give_57
      · have ic4 := rl_ine c4
        simp only [rl_n0] at ic4
        refine lv_aload_n hx hb d_x_give_29 rfl (lv_at hl 1 rfl) ?_
        refine va_get (D := D) (ci := 0) (v := .ref (a 31)) (C := "RightsLimit") (T := fT_x) (N := 8) hx hb hG fi_x hown hK hP 0 rfl rfl 5 (by decide) (hG _ wd_173) (fun _ h9 => h9) rfl d_x_give_30 ?_
        refine lv_iload_n hx hb d_x_give_33 rfl (lv_at hl 2 rfl) ?_
        refine lv_dup2_11 hx hb d_x_give_34 rfl rfl ?_
        refine va_iald hx hb hK hP 31 0 rfl rfl (rl_in (n := 100) (by omega) (by omega)) d_x_give_35 ?_
        refine lv_topi (fun v8 ev8 => ?_)
        refine lv_iload hx hb d_x_give_36 (lv_at hl 0 rfl) ?_
        refine lv_ior hx hb d_x_give_38 ?_
        refine lv_topi (fun v9 ev9 => ?_)
        refine va_iast hx hb hK hP hD hS 31 0 rfl rfl (rl_in (n := 100) (by omega) (by omega)) d_x_give_39 (fun H locs hP hD hS => ?_)
        have hP : va_P D rl_cl (rl_w a kI kZ (rl_st rl_F0 26 jn.toNatClampNeg v9)) H := hP
        have hD : va_D A (rl_w a kI kZ (rl_st rl_F0 26 jn.toNatClampNeg v9)) := hD
        refine lv_goto (tgt := 56) hx hb d_x_give_40 (by decide) ?_
        refine lv_iconst (v := 1) hx hb d_x_give_56 (by decide) ?_
        exact W.iret (v := 1) hx hb hr (fun t ht hW => ⟨⟨1, (rl_st rl_F0 26 jn.toNatClampNeg v9), rfl, (show (((0 ≤ jn.toInt ∧ jn.toInt ≤ 99) ∧ (1 ≤ jg.toInt ∧ jg.toInt ≤ 9)) ∧ (1 : Int32).toInt = 1) ∨ (¬ ((0 ≤ jn.toInt ∧ jn.toInt ≤ 99) ∧ (1 ≤ jg.toInt ∧ jg.toInt ≤ 9)) ∧ (1 : Int32).toInt = -2) by have q9 := rl_n1; omega), ⟨by rw [ht]; exact hP, hD⟩⟩, hS.F ht⟩) hS.2.2 d_x_give_57
    · refine lv_if_ne (tgt := 20) hx hb d_x_give_14 (by decide) (fun c9 => absurd c9 (by decide)) (fun _ => ?_)
      refine lv_bipush (v := (-2)) hx hb d_x_give_17 (by decide) ?_
      exact W.iret (v := (-2)) hx hb hr (fun t ht hW => ⟨⟨(-2), rl_F0, rfl, (show (((0 ≤ jn.toInt ∧ jn.toInt ≤ 99) ∧ (1 ≤ jg.toInt ∧ jg.toInt ≤ 9)) ∧ ((-2) : Int32).toInt = 1) ∨ (¬ ((0 ≤ jn.toInt ∧ jn.toInt ≤ 99) ∧ (1 ≤ jg.toInt ∧ jg.toInt ≤ 9)) ∧ ((-2) : Int32).toInt = -2) by have q9 := rl_nm2; omega), ⟨by rw [ht]; exact hP, hD⟩⟩, hS.F ht⟩) hS.2.2 d_x_give_19
  · refine lv_if_eq (tgt := 17) hx hb d_x_give_4 (by decide) (fun _ => ?_) (fun c9 => absurd c9 (by decide))
    refine lv_bipush (v := (-2)) hx hb d_x_give_17 (by decide) ?_
    exact W.iret (v := (-2)) hx hb hr (fun t ht hW => ⟨⟨(-2), rl_F0, rfl, (show (((0 ≤ jn.toInt ∧ jn.toInt ≤ 99) ∧ (1 ≤ jg.toInt ∧ jg.toInt ≤ 9)) ∧ ((-2) : Int32).toInt = 1) ∨ (¬ ((0 ≤ jn.toInt ∧ jn.toInt ≤ 99) ∧ (1 ≤ jg.toInt ∧ jg.toInt ≤ 9)) ∧ ((-2) : Int32).toInt = -2) by have q9 := rl_nm2; omega), ⟨by rw [ht]; exact hP, hD⟩⟩, hS.F ht⟩) hS.2.2 d_x_give_19
set_option maxHeartbeats 4000000 in
set_option maxRecDepth 100000 in
theorem k_x_right (l : Launch) (D : va_G) (a : Nat → Nat) (kI kZ : ClassId) (jt jg : Int32) (H0 : Heap) : rl_Ri l ⟨"RightsLimit", "right", "(II)I"⟩ (Cond.code ⟨"RightsLimit", "right", "(II)I"⟩ prog_1_method_10_code 3 (some .int) :: rl_G) { frames := 1, cells := 0, slots := 0, locals := 21 } D rl_cl (rl_tys kI kZ) [] [.ref (a 0), .int jt, .int jg] (rl_w a kI kZ rl_F0) H0 (fun (r : Int32) => r.toInt = -1) := by
  refine rl_metr (cc := prog_1_method_10_code) (maxL := 3) (ret := (some .int)) (by decide) rfl (Nat.le_of_ble_eq_true rfl) ?_
  intro p e s m below meth c ls hx hb hr hml hown hts hlocks hP hK hS hN hl
  have hown : s.vm.findClass "RightsLimit" = some m.cls := hown
  have hG : ∀ x ∈ rl_G, x.before _ s = true := fun x h => hts x (List.mem_cons_of_mem _ h)
  have hl : lv_has ls 3 [(0, .ref (a 0)), (1, .int jt), (2, .int jg)] := hl
  refine lv_aload_n hx hb d_x_right_0 rfl (lv_at hl 0 rfl) ?_
  refine va_get (D := D) (ci := 0) (v := .ref (a 1)) (C := "RightsLimit") (T := fT_x) (N := 8) hx hb hG fi_x hown hK hP 0 rfl rfl 0 (by decide) (hG _ wd_168) (fun _ h9 => h9) rfl d_x_right_1 ?_
  refine lv_iload_n hx hb d_x_right_4 rfl (lv_at hl 1 rfl) ?_
  have hpre := rl_BR.pre (av := .ref (a 1) :: [.int jt]) rl_nw0 hP hK hN
  refine rl_callr hS (va_runV (As := [.int jt]) (rest := []) ⟨hx, hb, hml, hown, hG⟩ (k_t_has l D a kI kZ jt _) (cwV 1 hG (rl_gV wd_211 wd_212 wd_213 wd_15 wd_214) rfl rfl rfl (by decide +kernel) ⟨Nat.le_of_ble_eq_true rfl, Nat.le_of_ble_eq_true rfl⟩) ⟨hpre.1, (va_recv hK hP (ci := 1) (q0 := 1) rfl rfl), hpre.2⟩ rfl rfl hl.1 rfl (lv_room (Nat.le_of_ble_eq_true rfl)) d_x_right_5 ⟨Nat.le_of_ble_eq_true rfl, Nat.le_of_ble_eq_true rfl⟩) (fun r locs hw hS => ?_)
  obtain rfl := hw
  refine lv_if_ne (tgt := 13) hx hb d_x_right_8 (by decide) (fun c9 => absurd c9 (by decide)) (fun _ => ?_)
  refine lv_iconst (v := (-1)) hx hb d_x_right_11 (by decide) ?_
  exact W.iret (v := (-1)) hx hb hr (fun t ht hW => ⟨⟨(-1), (), rfl, (show ((-1) : Int32).toInt = -1 by have q9 := rl_nm1; omega), ht⟩, hS.F ht⟩) hS.2.2 d_x_right_12
set_option maxHeartbeats 4000000 in
set_option maxRecDepth 100000 in
theorem k_x_waive (l : Launch) (D : va_G) (a : Nat → Nat) (kI kZ : ClassId) (jt jn : Int32) (H0 : Heap) : rl_Ri l ⟨"RightsLimit", "waive", "(II)I"⟩ (Cond.code ⟨"RightsLimit", "waive", "(II)I"⟩ prog_1_method_11_code 3 (some .int) :: rl_G) { frames := 1, cells := 0, slots := 0, locals := 21 } D rl_cl (rl_tys kI kZ) [] [.ref (a 0), .int jt, .int jn] (rl_w a kI kZ rl_F0) H0 (fun (r : Int32) => r.toInt = -1) := by
  refine rl_metr (cc := prog_1_method_11_code) (maxL := 3) (ret := (some .int)) (by decide) rfl (Nat.le_of_ble_eq_true rfl) ?_
  intro p e s m below meth c ls hx hb hr hml hown hts hlocks hP hK hS hN hl
  have hown : s.vm.findClass "RightsLimit" = some m.cls := hown
  have hG : ∀ x ∈ rl_G, x.before _ s = true := fun x h => hts x (List.mem_cons_of_mem _ h)
  have hl : lv_has ls 3 [(0, .ref (a 0)), (1, .int jt), (2, .int jn)] := hl
  refine lv_aload_n hx hb d_x_waive_0 rfl (lv_at hl 0 rfl) ?_
  refine va_get (D := D) (ci := 0) (v := .ref (a 1)) (C := "RightsLimit") (T := fT_x) (N := 8) hx hb hG fi_x hown hK hP 0 rfl rfl 0 (by decide) (hG _ wd_168) (fun _ h9 => h9) rfl d_x_waive_1 ?_
  refine lv_iload_n hx hb d_x_waive_4 rfl (lv_at hl 1 rfl) ?_
  have hpre := rl_BR.pre (av := .ref (a 1) :: [.int jt]) rl_nw0 hP hK hN
  refine rl_callr hS (va_runV (As := [.int jt]) (rest := []) ⟨hx, hb, hml, hown, hG⟩ (k_t_has l D a kI kZ jt _) (cwV 1 hG (rl_gV wd_211 wd_212 wd_213 wd_15 wd_214) rfl rfl rfl (by decide +kernel) ⟨Nat.le_of_ble_eq_true rfl, Nat.le_of_ble_eq_true rfl⟩) ⟨hpre.1, (va_recv hK hP (ci := 1) (q0 := 1) rfl rfl), hpre.2⟩ rfl rfl hl.1 rfl (lv_room (Nat.le_of_ble_eq_true rfl)) d_x_waive_5 ⟨Nat.le_of_ble_eq_true rfl, Nat.le_of_ble_eq_true rfl⟩) (fun r locs hw hS => ?_)
  obtain rfl := hw
  refine lv_if_ne (tgt := 13) hx hb d_x_waive_8 (by decide) (fun c9 => absurd c9 (by decide)) (fun _ => ?_)
  refine lv_iconst (v := (-1)) hx hb d_x_waive_11 (by decide) ?_
  exact W.iret (v := (-1)) hx hb hr (fun t ht hW => ⟨⟨(-1), (), rfl, (show ((-1) : Int32).toInt = -1 by have q9 := rl_nm1; omega), ht⟩, hS.F ht⟩) hS.2.2 d_x_waive_12
set_option maxHeartbeats 4000000 in
set_option maxRecDepth 100000 in
theorem k_x_renew (l : Launch) (D : va_G) (a : Nat → Nat) (kI kZ : ClassId) (jn jt : Int32) (H0 : Heap) : rl_Ri l ⟨"RightsLimit", "renew", "(II)I"⟩ (Cond.code ⟨"RightsLimit", "renew", "(II)I"⟩ prog_1_method_12_code 3 (some .int) :: rl_G) { frames := 1, cells := 0, slots := 0, locals := 21 } D rl_cl (rl_tys kI kZ) [] [.ref (a 0), .int jn, .int jt] (rl_w a kI kZ rl_F0) H0 (fun (r : Int32) => r.toInt = -1) := by
  refine rl_metr (cc := prog_1_method_12_code) (maxL := 3) (ret := (some .int)) (by decide) rfl (Nat.le_of_ble_eq_true rfl) ?_
  intro p e s m below meth c ls hx hb hr hml hown hts hlocks hP hK hS hN hl
  have hown : s.vm.findClass "RightsLimit" = some m.cls := hown
  have hG : ∀ x ∈ rl_G, x.before _ s = true := fun x h => hts x (List.mem_cons_of_mem _ h)
  have hl : lv_has ls 3 [(0, .ref (a 0)), (1, .int jn), (2, .int jt)] := hl
  refine lv_aload_n hx hb d_x_renew_0 rfl (lv_at hl 0 rfl) ?_
  refine va_get (D := D) (ci := 0) (v := .ref (a 4)) (C := "RightsLimit") (T := fT_x) (N := 8) hx hb hG fi_x hown hK hP 0 rfl rfl 3 (by decide) (hG _ wd_171) (fun _ h9 => h9) rfl d_x_renew_1 ?_
  refine lv_iload_n hx hb d_x_renew_4 rfl (lv_at hl 1 rfl) ?_
  have hpre := rl_BR.pre (av := .ref (a 4) :: [.int jn]) rl_nw0 hP hK hN
  refine rl_callr hS (va_runV (As := [.int jn]) (rest := []) ⟨hx, hb, hml, hown, hG⟩ (k_q_has l D a kI kZ jn _) (cwV 1 hG (rl_gV wd_331 wd_332 wd_333 wd_18 wd_334) rfl rfl rfl (by decide +kernel) ⟨Nat.le_of_ble_eq_true rfl, Nat.le_of_ble_eq_true rfl⟩) ⟨hpre.1, (va_recv hK hP (ci := 4) (q0 := 4) rfl rfl), hpre.2⟩ rfl rfl hl.1 rfl (lv_room (Nat.le_of_ble_eq_true rfl)) d_x_renew_5 ⟨Nat.le_of_ble_eq_true rfl, Nat.le_of_ble_eq_true rfl⟩) (fun r locs hw hS => ?_)
  obtain rfl := hw
  refine lv_if_ne (tgt := 13) hx hb d_x_renew_8 (by decide) (fun c9 => absurd c9 (by decide)) (fun _ => ?_)
  refine lv_iconst (v := (-1)) hx hb d_x_renew_11 (by decide) ?_
  exact W.iret (v := (-1)) hx hb hr (fun t ht hW => ⟨⟨(-1), (), rfl, (show ((-1) : Int32).toInt = -1 by have q9 := rl_nm1; omega), ht⟩, hS.F ht⟩) hS.2.2 d_x_renew_12
set_option maxHeartbeats 4000000 in
set_option maxRecDepth 100000 in
theorem k_x_delete (l : Launch) (D : va_G) (a : Nat → Nat) (kI kZ : ClassId) (jn jt : Int32) (H0 : Heap) : rl_Ri l ⟨"RightsLimit", "delete", "(II)I"⟩ (Cond.code ⟨"RightsLimit", "delete", "(II)I"⟩ prog_1_method_13_code 3 (some .int) :: rl_G) { frames := 1, cells := 0, slots := 0, locals := 21 } D rl_cl (rl_tys kI kZ) [] [.ref (a 0), .int jn, .int jt] (rl_w a kI kZ rl_F0) H0 (fun (r : Int32) => r.toInt = -1) := by
  refine rl_metr (cc := prog_1_method_13_code) (maxL := 3) (ret := (some .int)) (by decide) rfl (Nat.le_of_ble_eq_true rfl) ?_
  intro p e s m below meth c ls hx hb hr hml hown hts hlocks hP hK hS hN hl
  have hown : s.vm.findClass "RightsLimit" = some m.cls := hown
  have hG : ∀ x ∈ rl_G, x.before _ s = true := fun x h => hts x (List.mem_cons_of_mem _ h)
  have hl : lv_has ls 3 [(0, .ref (a 0)), (1, .int jn), (2, .int jt)] := hl
  refine lv_aload_n hx hb d_x_delete_0 rfl (lv_at hl 0 rfl) ?_
  refine va_get (D := D) (ci := 0) (v := .ref (a 4)) (C := "RightsLimit") (T := fT_x) (N := 8) hx hb hG fi_x hown hK hP 0 rfl rfl 3 (by decide) (hG _ wd_171) (fun _ h9 => h9) rfl d_x_delete_1 ?_
  refine lv_iload_n hx hb d_x_delete_4 rfl (lv_at hl 1 rfl) ?_
  have hpre := rl_BR.pre (av := .ref (a 4) :: [.int jn]) rl_nw0 hP hK hN
  refine rl_callr hS (va_runV (As := [.int jn]) (rest := []) ⟨hx, hb, hml, hown, hG⟩ (k_q_has l D a kI kZ jn _) (cwV 1 hG (rl_gV wd_331 wd_332 wd_333 wd_18 wd_334) rfl rfl rfl (by decide +kernel) ⟨Nat.le_of_ble_eq_true rfl, Nat.le_of_ble_eq_true rfl⟩) ⟨hpre.1, (va_recv hK hP (ci := 4) (q0 := 4) rfl rfl), hpre.2⟩ rfl rfl hl.1 rfl (lv_room (Nat.le_of_ble_eq_true rfl)) d_x_delete_5 ⟨Nat.le_of_ble_eq_true rfl, Nat.le_of_ble_eq_true rfl⟩) (fun r locs hw hS => ?_)
  obtain rfl := hw
  refine lv_if_ne (tgt := 13) hx hb d_x_delete_8 (by decide) (fun c9 => absurd c9 (by decide)) (fun _ => ?_)
  refine lv_iconst (v := (-1)) hx hb d_x_delete_11 (by decide) ?_
  exact W.iret (v := (-1)) hx hb hr (fun t ht hW => ⟨⟨(-1), (), rfl, (show ((-1) : Int32).toInt = -1 by have q9 := rl_nm1; omega), ht⟩, hS.F ht⟩) hS.2.2 d_x_delete_12
set_option maxHeartbeats 4000000 in
set_option maxRecDepth 100000 in
theorem k_x_counted (l : Launch) (D : va_G) (a : Nat → Nat) (kI kZ : ClassId) (jt jk jd ju : Int32) (H0 : Heap) : rl_Ri l ⟨"RightsLimit", "counted", "(IIII)I"⟩ (Cond.code ⟨"RightsLimit", "counted", "(IIII)I"⟩ prog_1_method_14_code 5 (some .int) :: rl_G) { frames := 1, cells := 0, slots := 0, locals := 21 } D rl_cl (rl_tys kI kZ) [] [.ref (a 0), .int jt, .int jk, .int jd, .int ju] (rl_w a kI kZ rl_F0) H0 (fun (r : Int32) => r.toInt = -1) := by
  refine rl_metr (cc := prog_1_method_14_code) (maxL := 5) (ret := (some .int)) (by decide) rfl (Nat.le_of_ble_eq_true rfl) ?_
  intro p e s m below meth c ls hx hb hr hml hown hts hlocks hP hK hS hN hl
  have hown : s.vm.findClass "RightsLimit" = some m.cls := hown
  have hG : ∀ x ∈ rl_G, x.before _ s = true := fun x h => hts x (List.mem_cons_of_mem _ h)
  have hl : lv_has ls 5 [(0, .ref (a 0)), (1, .int jt), (2, .int jk), (3, .int jd), (4, .int ju)] := hl
  refine lv_aload_n hx hb d_x_counted_0 rfl (lv_at hl 0 rfl) ?_
  refine va_get (D := D) (ci := 0) (v := .ref (a 1)) (C := "RightsLimit") (T := fT_x) (N := 8) hx hb hG fi_x hown hK hP 0 rfl rfl 0 (by decide) (hG _ wd_168) (fun _ h9 => h9) rfl d_x_counted_1 ?_
  refine lv_iload_n hx hb d_x_counted_4 rfl (lv_at hl 1 rfl) ?_
  have hpre := rl_BR.pre (av := .ref (a 1) :: [.int jt]) rl_nw0 hP hK hN
  refine rl_callr hS (va_runV (As := [.int jt]) (rest := []) ⟨hx, hb, hml, hown, hG⟩ (k_t_has l D a kI kZ jt _) (cwV 1 hG (rl_gV wd_211 wd_212 wd_213 wd_15 wd_214) rfl rfl rfl (by decide +kernel) ⟨Nat.le_of_ble_eq_true rfl, Nat.le_of_ble_eq_true rfl⟩) ⟨hpre.1, (va_recv hK hP (ci := 1) (q0 := 1) rfl rfl), hpre.2⟩ rfl rfl hl.1 rfl (lv_room (Nat.le_of_ble_eq_true rfl)) d_x_counted_5 ⟨Nat.le_of_ble_eq_true rfl, Nat.le_of_ble_eq_true rfl⟩) (fun r locs hw hS => ?_)
  obtain rfl := hw
  refine lv_if_ne (tgt := 13) hx hb d_x_counted_8 (by decide) (fun c9 => absurd c9 (by decide)) (fun _ => ?_)
  refine lv_iconst (v := (-1)) hx hb d_x_counted_11 (by decide) ?_
  exact W.iret (v := (-1)) hx hb hr (fun t ht hW => ⟨⟨(-1), (), rfl, (show ((-1) : Int32).toInt = -1 by have q9 := rl_nm1; omega), ht⟩, hS.F ht⟩) hS.2.2 d_x_counted_12
set_option maxHeartbeats 4000000 in
set_option maxRecDepth 100000 in
theorem k_x_left (l : Launch) (D : va_G) (a : Nat → Nat) (kI kZ : ClassId) (jn : Int32) (H0 : Heap) : rl_Ri l ⟨"RightsLimit", "left", "(I)I"⟩ (Cond.code ⟨"RightsLimit", "left", "(I)I"⟩ prog_1_method_16_code 2 (some .int) :: rl_G) { frames := 1, cells := 0, slots := 0, locals := 21 } D rl_cl (rl_tys kI kZ) [] [.ref (a 0), .int jn] (rl_w a kI kZ rl_F0) H0 (fun (r : Int32) => r.toInt = -1) := by
  refine rl_metr (cc := prog_1_method_16_code) (maxL := 2) (ret := (some .int)) (by decide) rfl (Nat.le_of_ble_eq_true rfl) ?_
  intro p e s m below meth c ls hx hb hr hml hown hts hlocks hP hK hS hN hl
  have hown : s.vm.findClass "RightsLimit" = some m.cls := hown
  have hG : ∀ x ∈ rl_G, x.before _ s = true := fun x h => hts x (List.mem_cons_of_mem _ h)
  have hl : lv_has ls 2 [(0, .ref (a 0)), (1, .int jn)] := hl
  refine lv_aload_n hx hb d_x_left_0 rfl (lv_at hl 0 rfl) ?_
  refine va_get (D := D) (ci := 0) (v := .ref (a 3)) (C := "RightsLimit") (T := fT_x) (N := 8) hx hb hG fi_x hown hK hP 0 rfl rfl 2 (by decide) (hG _ wd_170) (fun _ h9 => h9) rfl d_x_left_1 ?_
  refine lv_iload_n hx hb d_x_left_4 rfl (lv_at hl 1 rfl) ?_
  have hpre := rl_BR.pre (av := .ref (a 3) :: [.int jn]) rl_nw0 hP hK hN
  refine rl_callr hS (va_runV (As := [.int jn]) (rest := []) ⟨hx, hb, hml, hown, hG⟩ (k_c_has l D a kI kZ jn _) (cwV 1 hG (rl_gV wd_366 wd_367 wd_368 wd_17 wd_369) rfl rfl rfl (by decide +kernel) ⟨Nat.le_of_ble_eq_true rfl, Nat.le_of_ble_eq_true rfl⟩) ⟨hpre.1, (va_recv hK hP (ci := 3) (q0 := 3) rfl rfl), hpre.2⟩ rfl rfl hl.1 rfl (lv_room (Nat.le_of_ble_eq_true rfl)) d_x_left_5 ⟨Nat.le_of_ble_eq_true rfl, Nat.le_of_ble_eq_true rfl⟩) (fun r locs hw hS => ?_)
  obtain rfl := hw
  refine lv_if_eq (tgt := 23) hx hb d_x_left_8 (by decide) (fun _ => ?_) (fun c9 => absurd c9 (by decide))
  refine lv_iconst (v := (-1)) hx hb d_x_left_23 (by decide) ?_
  exact W.iret (v := (-1)) hx hb hr (fun t ht hW => ⟨⟨(-1), (), rfl, (show ((-1) : Int32).toInt = -1 by have q9 := rl_nm1; omega), ht⟩, hS.F ht⟩) hS.2.2 d_x_left_24
set_option maxHeartbeats 4000000 in
set_option maxRecDepth 100000 in
theorem k_x_statistics (l : Launch) (D : va_G) (a : Nat → Nat) (kI kZ : ClassId) (jn jw : Int32) (H0 : Heap) : rl_Ri l ⟨"RightsLimit", "statistics", "(II)I"⟩ (Cond.code ⟨"RightsLimit", "statistics", "(II)I"⟩ prog_1_method_17_code 3 (some .int) :: rl_G) { frames := 2, cells := 0, slots := 0, locals := 42 } D rl_cl (rl_tys kI kZ) [] [.ref (a 0), .int jn, .int jw] (rl_w a kI kZ rl_F0) H0 (fun (r : Int32) => (((0 ≤ jn.toInt ∧ jn.toInt ≤ 99) ∧ (0 ≤ jw.toInt ∧ jw.toInt ≤ 3)) ∧ r.toInt = 0) ∨ (¬ ((0 ≤ jn.toInt ∧ jn.toInt ≤ 99) ∧ (0 ≤ jw.toInt ∧ jw.toInt ≤ 3)) ∧ r.toInt = -1)) := by
  refine rl_metr (cc := prog_1_method_17_code) (maxL := 3) (ret := (some .int)) (by decide) rfl (Nat.le_of_ble_eq_true rfl) ?_
  intro p e s m below meth c ls hx hb hr hml hown hts hlocks hP hK hS hN hl
  have hown : s.vm.findClass "RightsLimit" = some m.cls := hown
  have hG : ∀ x ∈ rl_G, x.before _ s = true := fun x h => hts x (List.mem_cons_of_mem _ h)
  have hl : lv_has ls 3 [(0, .ref (a 0)), (1, .int jn), (2, .int jw)] := hl
  refine lv_iload_n hx hb d_x_statistics_0 rfl (lv_at hl 1 rfl) ?_
  refine rl_callr hS (va_runS (As := [.int jn]) (rest := []) ⟨hx, hb, hml, hown, hG⟩ (k_x_isPerson l D a kI kZ jn _) (cwS 1 hG (rl_gS wd_252 wd_253 wd_14 wd_254) rfl rfl rfl (by decide +kernel) ⟨Nat.le_of_ble_eq_true rfl, Nat.le_of_ble_eq_true rfl⟩) (rl_BR.pre rl_nw0 rl_P0 hK hN) rfl rfl hl.1 rfl (lv_room (Nat.le_of_ble_eq_true rfl)) d_x_statistics_1 ⟨Nat.le_of_ble_eq_true rfl, Nat.le_of_ble_eq_true rfl⟩) (fun r locs hw hS => ?_)
  rcases hw with ⟨rfl, h1⟩ | ⟨rfl, h1⟩
  · refine lv_if_ne (tgt := 9) hx hb d_x_statistics_4 (by decide) (fun _ => ?_) (fun c9 => absurd c9 (by decide))
    refine lv_iload_n hx hb d_x_statistics_9 rfl (lv_at hl 2 rfl) ?_
    by_cases hsw : jw.toInt < 0 ∨ 3 < jw.toInt
    · refine lv_tableOut (tgt := 76) hx hb d_x_statistics_10 hsw (by decide) ?_
      refine lv_iconst (v := (-1)) hx hb d_x_statistics_76 (by decide) ?_
      exact W.iret (v := (-1)) hx hb hr (fun t ht hW => ⟨⟨(-1), (), rfl, (show (((0 ≤ jn.toInt ∧ jn.toInt ≤ 99) ∧ (0 ≤ jw.toInt ∧ jw.toInt ≤ 3)) ∧ ((-1) : Int32).toInt = 0) ∨ (¬ ((0 ≤ jn.toInt ∧ jn.toInt ≤ 99) ∧ (0 ≤ jw.toInt ∧ jw.toInt ≤ 3)) ∧ ((-1) : Int32).toInt = -1) by have q9 := rl_nm1; omega), ht⟩, hS.F ht⟩) hS.2.2 d_x_statistics_77
    · have hsk : jw.toInt = 0 ∨ jw.toInt = 1 ∨ jw.toInt = 2 ∨ jw.toInt = 3 := by omega
      rcases hsk with hsk | hsk | hsk | hsk
      · refine lv_tableIn (off := 30) (tgt := 40) hx hb d_x_statistics_10 (by omega) (by omega) (by rw [hsk]; rfl) (by decide) ?_
        refine lv_aload_n hx hb d_x_statistics_40 rfl (lv_at hl 0 rfl) ?_
        refine va_get (D := D) (ci := 0) (v := .ref (a 4)) (C := "RightsLimit") (T := fT_x) (N := 8) hx hb hG fi_x hown hK hP 0 rfl rfl 3 (by decide) (hG _ wd_171) (fun _ h9 => h9) rfl d_x_statistics_41 ?_
        refine lv_iload_n hx hb d_x_statistics_44 rfl (lv_at hl 1 rfl) ?_
        have hpre := rl_BR.pre (av := .ref (a 4) :: [.int jn]) rl_nw0 hP hK hN
        refine rl_callr hS (va_runV (As := [.int jn]) (rest := []) ⟨hx, hb, hml, hown, hG⟩ (k_q_countOf l D a kI kZ jn _) (cwV 1 hG (rl_gV wd_374 wd_375 wd_376 wd_18 wd_377) rfl rfl rfl (by decide +kernel) ⟨Nat.le_of_ble_eq_true rfl, Nat.le_of_ble_eq_true rfl⟩) ⟨hpre.1, (va_recv hK hP (ci := 4) (q0 := 4) rfl rfl), hpre.2⟩ rfl rfl hl.1 rfl (lv_room (Nat.le_of_ble_eq_true rfl)) d_x_statistics_45 ⟨Nat.le_of_ble_eq_true rfl, Nat.le_of_ble_eq_true rfl⟩) (fun r locs hw hS => ?_)
        obtain ⟨r2, er2⟩ : ∃ q, q = r := ⟨_, rfl⟩
        rw [← er2] at hw ⊢
        have hwr2 := hw
        exact W.iret (v := r2) hx hb hr (fun t ht hW => ⟨⟨r2, (), rfl, (show (((0 ≤ jn.toInt ∧ jn.toInt ≤ 99) ∧ (0 ≤ jw.toInt ∧ jw.toInt ≤ 3)) ∧ r2.toInt = 0) ∨ (¬ ((0 ≤ jn.toInt ∧ jn.toInt ≤ 99) ∧ (0 ≤ jw.toInt ∧ jw.toInt ≤ 3)) ∧ r2.toInt = -1) by omega), ht⟩, hS.F ht⟩) hS.2.2 d_x_statistics_48
      · refine lv_tableIn (off := 39) (tgt := 49) hx hb d_x_statistics_10 (by omega) (by omega) (by rw [hsk]; rfl) (by decide) ?_
        refine lv_aload_n hx hb d_x_statistics_49 rfl (lv_at hl 0 rfl) ?_
        refine va_get (D := D) (ci := 0) (v := .ref (a 4)) (C := "RightsLimit") (T := fT_x) (N := 8) hx hb hG fi_x hown hK hP 0 rfl rfl 3 (by decide) (hG _ wd_171) (fun _ h9 => h9) rfl d_x_statistics_50 ?_
        refine lv_iload_n hx hb d_x_statistics_53 rfl (lv_at hl 1 rfl) ?_
        have hpre := rl_BR.pre (av := .ref (a 4) :: [.int jn]) rl_nw0 hP hK hN
        refine rl_callr hS (va_runV (As := [.int jn]) (rest := []) ⟨hx, hb, hml, hown, hG⟩ (k_q_countRefusedOf l D a kI kZ jn _) (cwV 1 hG (rl_gV wd_378 wd_379 wd_380 wd_18 wd_381) rfl rfl rfl (by decide +kernel) ⟨Nat.le_of_ble_eq_true rfl, Nat.le_of_ble_eq_true rfl⟩) ⟨hpre.1, (va_recv hK hP (ci := 4) (q0 := 4) rfl rfl), hpre.2⟩ rfl rfl hl.1 rfl (lv_room (Nat.le_of_ble_eq_true rfl)) d_x_statistics_54 ⟨Nat.le_of_ble_eq_true rfl, Nat.le_of_ble_eq_true rfl⟩) (fun r locs hw hS => ?_)
        obtain ⟨r3, er3⟩ : ∃ q, q = r := ⟨_, rfl⟩
        rw [← er3] at hw ⊢
        have hwr3 := hw
        exact W.iret (v := r3) hx hb hr (fun t ht hW => ⟨⟨r3, (), rfl, (show (((0 ≤ jn.toInt ∧ jn.toInt ≤ 99) ∧ (0 ≤ jw.toInt ∧ jw.toInt ≤ 3)) ∧ r3.toInt = 0) ∨ (¬ ((0 ≤ jn.toInt ∧ jn.toInt ≤ 99) ∧ (0 ≤ jw.toInt ∧ jw.toInt ≤ 3)) ∧ r3.toInt = -1) by omega), ht⟩, hS.F ht⟩) hS.2.2 d_x_statistics_57
      · refine lv_tableIn (off := 48) (tgt := 58) hx hb d_x_statistics_10 (by omega) (by omega) (by rw [hsk]; rfl) (by decide) ?_
        refine lv_aload_n hx hb d_x_statistics_58 rfl (lv_at hl 0 rfl) ?_
        refine va_get (D := D) (ci := 0) (v := .ref (a 4)) (C := "RightsLimit") (T := fT_x) (N := 8) hx hb hG fi_x hown hK hP 0 rfl rfl 3 (by decide) (hG _ wd_171) (fun _ h9 => h9) rfl d_x_statistics_59 ?_
        refine lv_iload_n hx hb d_x_statistics_62 rfl (lv_at hl 1 rfl) ?_
        have hpre := rl_BR.pre (av := .ref (a 4) :: [.int jn]) rl_nw0 hP hK hN
        refine rl_callr hS (va_runV (As := [.int jn]) (rest := []) ⟨hx, hb, hml, hown, hG⟩ (k_q_pagesAllowedTo l D a kI kZ jn _) (cwV 1 hG (rl_gV wd_382 wd_383 wd_384 wd_18 wd_385) rfl rfl rfl (by decide +kernel) ⟨Nat.le_of_ble_eq_true rfl, Nat.le_of_ble_eq_true rfl⟩) ⟨hpre.1, (va_recv hK hP (ci := 4) (q0 := 4) rfl rfl), hpre.2⟩ rfl rfl hl.1 rfl (lv_room (Nat.le_of_ble_eq_true rfl)) d_x_statistics_63 ⟨Nat.le_of_ble_eq_true rfl, Nat.le_of_ble_eq_true rfl⟩) (fun r locs hw hS => ?_)
        obtain ⟨r4, er4⟩ : ∃ q, q = r := ⟨_, rfl⟩
        rw [← er4] at hw ⊢
        have hwr4 := hw
        exact W.iret (v := r4) hx hb hr (fun t ht hW => ⟨⟨r4, (), rfl, (show (((0 ≤ jn.toInt ∧ jn.toInt ≤ 99) ∧ (0 ≤ jw.toInt ∧ jw.toInt ≤ 3)) ∧ r4.toInt = 0) ∨ (¬ ((0 ≤ jn.toInt ∧ jn.toInt ≤ 99) ∧ (0 ≤ jw.toInt ∧ jw.toInt ≤ 3)) ∧ r4.toInt = -1) by omega), ht⟩, hS.F ht⟩) hS.2.2 d_x_statistics_66
      · refine lv_tableIn (off := 57) (tgt := 67) hx hb d_x_statistics_10 (by omega) (by omega) (by rw [hsk]; rfl) (by decide) ?_
        refine lv_aload_n hx hb d_x_statistics_67 rfl (lv_at hl 0 rfl) ?_
        refine va_get (D := D) (ci := 0) (v := .ref (a 4)) (C := "RightsLimit") (T := fT_x) (N := 8) hx hb hG fi_x hown hK hP 0 rfl rfl 3 (by decide) (hG _ wd_171) (fun _ h9 => h9) rfl d_x_statistics_68 ?_
        refine lv_iload_n hx hb d_x_statistics_71 rfl (lv_at hl 1 rfl) ?_
        have hpre := rl_BR.pre (av := .ref (a 4) :: [.int jn]) rl_nw0 hP hK hN
        refine rl_callr hS (va_runV (As := [.int jn]) (rest := []) ⟨hx, hb, hml, hown, hG⟩ (k_q_centsOf l D a kI kZ jn _) (cwV 1 hG (rl_gV wd_386 wd_387 wd_388 wd_18 wd_389) rfl rfl rfl (by decide +kernel) ⟨Nat.le_of_ble_eq_true rfl, Nat.le_of_ble_eq_true rfl⟩) ⟨hpre.1, (va_recv hK hP (ci := 4) (q0 := 4) rfl rfl), hpre.2⟩ rfl rfl hl.1 rfl (lv_room (Nat.le_of_ble_eq_true rfl)) d_x_statistics_72 ⟨Nat.le_of_ble_eq_true rfl, Nat.le_of_ble_eq_true rfl⟩) (fun r locs hw hS => ?_)
        obtain ⟨r5, er5⟩ : ∃ q, q = r := ⟨_, rfl⟩
        rw [← er5] at hw ⊢
        have hwr5 := hw
        exact W.iret (v := r5) hx hb hr (fun t ht hW => ⟨⟨r5, (), rfl, (show (((0 ≤ jn.toInt ∧ jn.toInt ≤ 99) ∧ (0 ≤ jw.toInt ∧ jw.toInt ≤ 3)) ∧ r5.toInt = 0) ∨ (¬ ((0 ≤ jn.toInt ∧ jn.toInt ≤ 99) ∧ (0 ≤ jw.toInt ∧ jw.toInt ≤ 3)) ∧ r5.toInt = -1) by omega), ht⟩, hS.F ht⟩) hS.2.2 d_x_statistics_75
  · refine lv_if_ne (tgt := 9) hx hb d_x_statistics_4 (by decide) (fun c9 => absurd c9 (by decide)) (fun _ => ?_)
    refine lv_iconst (v := (-1)) hx hb d_x_statistics_7 (by decide) ?_
    exact W.iret (v := (-1)) hx hb hr (fun t ht hW => ⟨⟨(-1), (), rfl, (show (((0 ≤ jn.toInt ∧ jn.toInt ≤ 99) ∧ (0 ≤ jw.toInt ∧ jw.toInt ≤ 3)) ∧ ((-1) : Int32).toInt = 0) ∨ (¬ ((0 ≤ jn.toInt ∧ jn.toInt ≤ 99) ∧ (0 ≤ jw.toInt ∧ jw.toInt ≤ 3)) ∧ ((-1) : Int32).toInt = -1) by have q9 := rl_nm1; omega), ht⟩, hS.F ht⟩) hS.2.2 d_x_statistics_8
end
section
set_option maxHeartbeats 4000000 in
set_option maxRecDepth 100000 in
theorem k_m_in (l : Launch) (D : va_G) (a : Nat → Nat) (kI kZ : ClassId) (jn jlo jhi : Int32) (H0 : Heap) : rl_Ri l ⟨"RightsLimitModel", "in", "(III)Z"⟩ (Cond.code ⟨"RightsLimitModel", "in", "(III)Z"⟩ prog_7_method_3_code 3 (some .boolean) :: rl_G) { frames := 0, cells := 0, slots := 0, locals := 0 } D rl_cl (rl_tys kI kZ) [] [.int jn, .int jlo, .int jhi] [] H0 (fun (r : Int32) => (r = 1 ∧ (jlo.toInt ≤ jn.toInt ∧ jn.toInt ≤ jhi.toInt)) ∨ (r = 0 ∧ ¬ (jlo.toInt ≤ jn.toInt ∧ jn.toInt ≤ jhi.toInt))) := by
  refine rl_metr (cc := prog_7_method_3_code) (maxL := 3) (ret := (some .boolean)) (by decide) rfl (Nat.le_of_ble_eq_true rfl) ?_
  intro p e s m below meth c ls hx hb hr hml hown hts hlocks hP hK hS hN hl
  have hown : s.vm.findClass "RightsLimitModel" = some m.cls := hown
  have hG : ∀ x ∈ rl_G, x.before _ s = true := fun x h => hts x (List.mem_cons_of_mem _ h)
  have hl : lv_has ls 3 [(0, .int jn), (1, .int jlo), (2, .int jhi)] := hl
  refine lv_iload_n hx hb d_m_in_0 rfl (lv_at hl 0 rfl) ?_
  refine lv_iload_n hx hb d_m_in_1 rfl (lv_at hl 1 rfl) ?_
  refine lv_icmp_lt (tgt := 14) hx hb d_m_in_2 (by decide) (fun c1 => ?_) (fun c1 => ?_)
  · have ic1 := rl_ilt c1
    refine lv_iconst (v := 0) hx hb d_m_in_14 (by decide) ?_
    exact W.zret (v := 0) hx hb hr rfl (fun t ht hW => ⟨⟨0, (), rfl, Or.inr ⟨rfl, by omega⟩, ht⟩, hS.F ht⟩) hS.2.2 d_m_in_15
  · have ic1 := rl_inlt c1
    refine lv_iload_n hx hb d_m_in_5 rfl (lv_at hl 0 rfl) ?_
    refine lv_iload_n hx hb d_m_in_6 rfl (lv_at hl 2 rfl) ?_
    refine lv_icmp_gt (tgt := 14) hx hb d_m_in_7 (by decide) (fun c2 => ?_) (fun c2 => ?_)
    · have ic2 := rl_ilt c2
      refine lv_iconst (v := 0) hx hb d_m_in_14 (by decide) ?_
      exact W.zret (v := 0) hx hb hr rfl (fun t ht hW => ⟨⟨0, (), rfl, Or.inr ⟨rfl, by omega⟩, ht⟩, hS.F ht⟩) hS.2.2 d_m_in_15
    · have ic2 := rl_inlt c2
      refine lv_iconst (v := 1) hx hb d_m_in_10 (by decide) ?_
      refine lv_goto (tgt := 15) hx hb d_m_in_11 (by decide) ?_
      exact W.zret (v := 1) hx hb hr rfl (fun t ht hW => ⟨⟨1, (), rfl, Or.inl ⟨rfl, by omega⟩, ht⟩, hS.F ht⟩) hS.2.2 d_m_in_15
set_option maxHeartbeats 4000000 in
set_option maxRecDepth 100000 in
theorem k_m_isTitle (l : Launch) (D : va_G) (a : Nat → Nat) (kI kZ : ClassId) (jn : Int32) (H0 : Heap) : rl_Ri l ⟨"RightsLimitModel", "isTitle", "(I)Z"⟩ (Cond.code ⟨"RightsLimitModel", "isTitle", "(I)Z"⟩ prog_7_method_4_code 2 (some .boolean) :: rl_G) { frames := 1, cells := 0, slots := 0, locals := 22 } D rl_cl (rl_tys kI kZ) [] [.ref (a 0), .int jn] (rm_w a kI kZ (rl_st rm_F0 27 0 0)) H0 (fun (r : Int32) => r = 0) := by
  refine rl_metr (cc := prog_7_method_4_code) (maxL := 2) (ret := (some .boolean)) (by decide) rfl (Nat.le_of_ble_eq_true rfl) ?_
  intro p e s m below meth c ls hx hb hr hml hown hts hlocks hP hK hS hN hl
  have hown : s.vm.findClass "RightsLimitModel" = some m.cls := hown
  have hG : ∀ x ∈ rl_G, x.before _ s = true := fun x h => hts x (List.mem_cons_of_mem _ h)
  have hl : lv_has ls 2 [(0, .ref (a 0)), (1, .int jn)] := hl
  refine lv_iload_n hx hb d_m_isTitle_0 rfl (lv_at hl 1 rfl) ?_
  refine lv_iconst (v := 0) hx hb d_m_isTitle_1 (by decide) ?_
  refine lv_aload_n hx hb d_m_isTitle_2 rfl (lv_at hl 0 rfl) ?_
  refine va_get (D := D) (ci := 5) (v := .int 0) (C := "RightsLimitModel") (T := fT_m) (N := 33) hx hb hG fi_m hown hK hP 0 rfl rfl 2 (by decide) (hG _ wd_485) (fun _ h9 => h9) rfl d_m_isTitle_3 ?_
  refine lv_iconst (v := 1) hx hb d_m_isTitle_6 (by decide) ?_
  refine lv_isub hx hb d_m_isTitle_7 ?_
  refine lv_topi (fun v1 ev1 => ?_)
  have iv1 : v1.toInt = -1 := by rw [ev1]; decide
  refine rl_callr hS (va_runS (As := [.int jn, .int 0, .int v1]) (rest := []) ⟨hx, hb, hml, hown, hG⟩ (k_m_in l D a kI kZ jn 0 v1 _) (cwS 3 hG (rl_gS wd_591 wd_592 wd_19 wd_593) rfl rfl rfl (by decide +kernel) ⟨Nat.le_of_ble_eq_true rfl, Nat.le_of_ble_eq_true rfl⟩) (rl_BR.pre rl_nw0 rl_P0 hK hN) rfl rfl hl.1 rfl (lv_room (Nat.le_of_ble_eq_true rfl)) d_m_isTitle_8 ⟨Nat.le_of_ble_eq_true rfl, Nat.le_of_ble_eq_true rfl⟩) (fun r locs hw hS => ?_)
  try simp only [rl_n0] at hw
  rcases hw with ⟨rfl, h2⟩ | ⟨rfl, h2⟩
  · exfalso; omega
  · exact W.zret (v := 0) hx hb hr rfl (fun t ht hW => ⟨⟨0, (), rfl, rfl, ht⟩, hS.F ht⟩) hS.2.2 d_m_isTitle_11
set_option maxHeartbeats 4000000 in
set_option maxRecDepth 100000 in
theorem k_m_thrown (l : Launch) (D : va_G) (a : Nat → Nat) (kI kZ : ClassId) (F : Nat → Nat → Int32) (H0 : Heap) : rl_Ri l ⟨"RightsLimitModel", "thrown", "()I"⟩ (Cond.code ⟨"RightsLimitModel", "thrown", "()I"⟩ prog_7_method_2_code 1 (some .int) :: rl_G) { frames := 0, cells := 0, slots := 0, locals := 0 } D rl_cl (rl_tys kI kZ) [] [.ref (a 0)] (rm_w a kI kZ F) H0 (fun (r : Int32) => r = F 27 0) := by
  refine rl_metr (cc := prog_7_method_2_code) (maxL := 1) (ret := (some .int)) (by decide) rfl (Nat.le_of_ble_eq_true rfl) ?_
  intro p e s m below meth c ls hx hb hr hml hown hts hlocks hP hK hS hN hl
  have hown : s.vm.findClass "RightsLimitModel" = some m.cls := hown
  have hG : ∀ x ∈ rl_G, x.before _ s = true := fun x h => hts x (List.mem_cons_of_mem _ h)
  have hl : lv_has ls 1 [(0, .ref (a 0))] := hl
  refine lv_aload_n hx hb d_m_thrown_0 rfl (lv_at hl 0 rfl) ?_
  refine va_get (D := D) (ci := 5) (v := .int (F 27 0)) (C := "RightsLimitModel") (T := fT_m) (N := 33) hx hb hG fi_m hown hK hP 0 rfl rfl 0 (by decide) (hG _ wd_483) (fun _ h9 => h9) rfl d_m_thrown_1 ?_
  exact W.iret (v := F 27 0) hx hb hr (fun t ht hW => ⟨⟨F 27 0, (), rfl, rfl, ht⟩, hS.F ht⟩) hS.2.2 d_m_thrown_4
set_option maxHeartbeats 4000000 in
set_option maxRecDepth 100000 in
theorem k_m_title (l : Launch) (D : va_G) (a : Nat → Nat) (kI kZ : ClassId) (jp : Int32) (sz : Nat) : rl_Ci (S := Nat → Nat → Int32) l ⟨"RightsLimitModel", "title", "(I)I"⟩ (Cond.code ⟨"RightsLimitModel", "title", "(I)I"⟩ prog_7_method_6_code 2 (some .int) :: rl_G) { frames := 1, cells := 0, slots := 0, locals := 22 } D rl_cl (rl_tys kI kZ) [] [.ref (a 0), .int jp] (rm_w a kI kZ rm_F0) sz (fun (r : Int32) (F' : Nat → Nat → Int32) => ((0 ≤ jp.toInt ∧ jp.toInt ≤ 99) ∧ r.toInt = 0) ∨ (¬ (0 ≤ jp.toInt ∧ jp.toInt ≤ 99) ∧ r.toInt = -2)) (fun F' => rm_w a kI kZ F') 0 0 := by
  refine rl_meti (cc := prog_7_method_6_code) (maxL := 2) (ret := (some .int)) (by decide) rfl (Nat.le_of_ble_eq_true rfl) ?_
  intro p e s m below meth c A ls hx hb hr hml hown hts hlocks hnm hP hK hD hS hA hN hl
  have hown : s.vm.findClass "RightsLimitModel" = some m.cls := hown
  have hG : ∀ x ∈ rl_G, x.before _ s = true := fun x h => hts x (List.mem_cons_of_mem _ h)
  have hl : lv_has ls 2 [(0, .ref (a 0)), (1, .int jp)] := hl
  refine lv_aload_n hx hb d_m_title_0 rfl (lv_at hl 0 rfl) ?_
  refine lv_iconst (v := 0) hx hb d_m_title_1 (by decide) ?_
  refine va_put (D := D) (ci := 5) (v := .int 0) (ty := .int) (C := "RightsLimitModel") (T := fT_m) (N := 33) hx hb hG fi_m fy_m fo_m fn_m hown hK hP hD hS 0 rfl rfl 0 (by decide) (hG _ wd_483) (fun _ h9 => h9) rfl (by decide +kernel) rfl rfl (Nat.le_of_ble_eq_true rfl) d_m_title_2 (fun H locs hP hD hS => ?_)
  have hP : va_P D rl_cl (rm_w a kI kZ (rl_st rm_F0 27 0 0)) H := hP
  have hD : va_D A (rm_w a kI kZ (rl_st rm_F0 27 0 0)) := hD
  refine lv_iload_n hx hb d_m_title_5 rfl (lv_at hl 1 rfl) ?_
  refine lv_iconst (v := 0) hx hb d_m_title_6 (by decide) ?_
  refine lv_bipush (v := 99) hx hb d_m_title_7 (by decide) ?_
  refine rl_callr hS (va_runS (As := [.int jp, .int 0, .int 99]) (rest := []) ⟨hx, hb, hml, hown, hG⟩ (k_m_in l D a kI kZ jp 0 99 _) (cwS 3 hG (rl_gS wd_591 wd_592 wd_19 wd_593) rfl rfl rfl (by decide +kernel) ⟨Nat.le_of_ble_eq_true rfl, Nat.le_of_ble_eq_true rfl⟩) (rl_BR.pre rl_nw0 rl_P0 hK hN) rfl rfl hl.1 rfl (lv_room (Nat.le_of_ble_eq_true rfl)) d_m_title_9 ⟨Nat.le_of_ble_eq_true rfl, Nat.le_of_ble_eq_true rfl⟩) (fun r locs hw hS => ?_)
  try simp only [rl_n0, rl_n99] at hw
  rcases hw with ⟨rfl, h1⟩ | ⟨rfl, h1⟩
  · refine lv_if_ne (tgt := 18) hx hb d_m_title_12 (by decide) (fun _ => ?_) (fun c9 => absurd c9 (by decide))
    refine lv_aload_n hx hb d_m_title_18 rfl (lv_at hl 0 rfl) ?_
    refine va_get (D := D) (ci := 5) (v := .int 0) (C := "RightsLimitModel") (T := fT_m) (N := 33) hx hb hG fi_m hown hK hP 0 rfl rfl 2 (by decide) (hG _ wd_485) (fun _ h9 => h9) rfl d_m_title_19 ?_
    refine lv_bipush (v := 50) hx hb d_m_title_22 (by decide) ?_
    refine lv_icmp_ne (tgt := 30) hx hb d_m_title_24 (by decide) (fun _ => ?_) (fun c9 => absurd c9 (by decide))
    refine lv_aload_n hx hb d_m_title_30 rfl (lv_at hl 0 rfl) ?_
    refine va_get (D := D) (ci := 5) (v := .ref (a 1)) (C := "RightsLimitModel") (T := fT_m) (N := 33) hx hb hG fi_m hown hK hP 0 rfl rfl 3 (by decide) (hG _ wd_486) (fun _ h9 => h9) rfl d_m_title_31 ?_
    refine lv_aload_n hx hb d_m_title_34 rfl (lv_at hl 0 rfl) ?_
    refine va_get (D := D) (ci := 5) (v := .int 0) (C := "RightsLimitModel") (T := fT_m) (N := 33) hx hb hG fi_m hown hK hP 0 rfl rfl 2 (by decide) (hG _ wd_485) (fun _ h9 => h9) rfl d_m_title_35 ?_
    refine lv_iload_n hx hb d_m_title_38 rfl (lv_at hl 1 rfl) ?_
    refine va_iast hx hb hK hP hD hS 1 0 rfl rfl (rl_in (x := 0) (n := 50) (by decide) (by decide)) d_m_title_39 (fun H locs hP hD hS => ?_)
    have hP : va_P D rl_cl (rm_w a kI kZ (rl_st (rl_st rm_F0 27 0 0) 0 (0 : Int32).toNatClampNeg jp)) H := hP
    have hD : va_D A (rm_w a kI kZ (rl_st (rl_st rm_F0 27 0 0) 0 (0 : Int32).toNatClampNeg jp)) := hD
    refine lv_aload_n hx hb d_m_title_40 rfl (lv_at hl 0 rfl) ?_
    refine lv_dup hx hb d_m_title_41 rfl ?_
    refine va_get (D := D) (ci := 5) (v := .int 0) (C := "RightsLimitModel") (T := fT_m) (N := 33) hx hb hG fi_m hown hK hP 0 rfl rfl 2 (by decide) (hG _ wd_485) (fun _ h9 => h9) rfl d_m_title_42 ?_
    refine lv_iconst (v := 1) hx hb d_m_title_45 (by decide) ?_
    refine lv_iadd hx hb d_m_title_46 ?_
    refine lv_topi (fun v2 ev2 => ?_)
    have iv2 : v2.toInt = 1 := by rw [ev2]; decide
    refine va_put (D := D) (ci := 5) (v := .int v2) (ty := .int) (C := "RightsLimitModel") (T := fT_m) (N := 33) hx hb hG fi_m fy_m fo_m fn_m hown hK hP hD hS 0 rfl rfl 2 (by decide) (hG _ wd_485) (fun _ h9 => h9) rfl (by decide +kernel) rfl rfl (Nat.le_of_ble_eq_true rfl) d_m_title_47 (fun H locs hP hD hS => ?_)
    have hP : va_P D rl_cl (rm_w a kI kZ (rl_st (rl_st (rl_st rm_F0 27 0 0) 0 (0 : Int32).toNatClampNeg jp) 27 2 v2)) H := hP
    have hD : va_D A (rm_w a kI kZ (rl_st (rl_st (rl_st rm_F0 27 0 0) 0 (0 : Int32).toNatClampNeg jp) 27 2 v2)) := hD
    refine lv_aload_n hx hb d_m_title_50 rfl (lv_at hl 0 rfl) ?_
    refine va_get (D := D) (ci := 5) (v := .int v2) (C := "RightsLimitModel") (T := fT_m) (N := 33) hx hb hG fi_m hown hK hP 0 rfl rfl 2 (by decide) (hG _ wd_485) (fun _ h9 => h9) rfl d_m_title_51 ?_
    refine lv_iconst (v := 1) hx hb d_m_title_54 (by decide) ?_
    refine lv_isub hx hb d_m_title_55 ?_
    refine lv_topi (fun v3 ev3 => ?_)
    have iv3 : v3.toInt = v2.toInt - 1 := by rw [ev3]; exact rl_subk (by decide) (by omega) (by omega)
    exact W.iret (v := v3) hx hb hr (fun t ht hW => ⟨⟨v3, (rl_st (rl_st (rl_st rm_F0 27 0 0) 0 (0 : Int32).toNatClampNeg jp) 27 2 v2), rfl, (show ((0 ≤ jp.toInt ∧ jp.toInt ≤ 99) ∧ v3.toInt = 0) ∨ (¬ (0 ≤ jp.toInt ∧ jp.toInt ≤ 99) ∧ v3.toInt = -2) by omega), ⟨by rw [ht]; exact hP, hD⟩⟩, hS.F ht⟩) hS.2.2 d_m_title_56
  · refine lv_if_ne (tgt := 18) hx hb d_m_title_12 (by decide) (fun c9 => absurd c9 (by decide)) (fun _ => ?_)
    refine lv_bipush (v := (-2)) hx hb d_m_title_15 (by decide) ?_
    exact W.iret (v := (-2)) hx hb hr (fun t ht hW => ⟨⟨(-2), (rl_st rm_F0 27 0 0), rfl, (show ((0 ≤ jp.toInt ∧ jp.toInt ≤ 99) ∧ ((-2) : Int32).toInt = 0) ∨ (¬ (0 ≤ jp.toInt ∧ jp.toInt ≤ 99) ∧ ((-2) : Int32).toInt = -2) by have q9 := rl_nm2; omega), ⟨by rw [ht]; exact hP, hD⟩⟩, hS.F ht⟩) hS.2.2 d_m_title_17
set_option maxHeartbeats 4000000 in
set_option maxRecDepth 100000 in
theorem k_m_open (l : Launch) (D : va_G) (a : Nat → Nat) (kI kZ : ClassId) (jt jb : Int32) (sz : Nat) : rl_Ci (S := Nat → Nat → Int32) l ⟨"RightsLimitModel", "open", "(IZ)I"⟩ (Cond.code ⟨"RightsLimitModel", "open", "(IZ)I"⟩ prog_7_method_7_code 3 (some .int) :: rl_G) { frames := 2, cells := 0, slots := 0, locals := 43 } D rl_cl (rl_tys kI kZ) [] [.ref (a 0), .int jt, .int jb] (rm_w a kI kZ rm_F0) sz (fun (r : Int32) (F' : Nat → Nat → Int32) => r.toInt = -1) (fun F' => rm_w a kI kZ F') 0 0 := by
  refine rl_meti (cc := prog_7_method_7_code) (maxL := 3) (ret := (some .int)) (by decide) rfl (Nat.le_of_ble_eq_true rfl) ?_
  intro p e s m below meth c A ls hx hb hr hml hown hts hlocks hnm hP hK hD hS hA hN hl
  have hown : s.vm.findClass "RightsLimitModel" = some m.cls := hown
  have hG : ∀ x ∈ rl_G, x.before _ s = true := fun x h => hts x (List.mem_cons_of_mem _ h)
  have hl : lv_has ls 3 [(0, .ref (a 0)), (1, .int jt), (2, .int jb)] := hl
  refine lv_aload_n hx hb d_m_open_0 rfl (lv_at hl 0 rfl) ?_
  refine lv_iconst (v := 0) hx hb d_m_open_1 (by decide) ?_
  refine va_put (D := D) (ci := 5) (v := .int 0) (ty := .int) (C := "RightsLimitModel") (T := fT_m) (N := 33) hx hb hG fi_m fy_m fo_m fn_m hown hK hP hD hS 0 rfl rfl 0 (by decide) (hG _ wd_483) (fun _ h9 => h9) rfl (by decide +kernel) rfl rfl (Nat.le_of_ble_eq_true rfl) d_m_open_2 (fun H locs hP hD hS => ?_)
  have hP : va_P D rl_cl (rm_w a kI kZ (rl_st rm_F0 27 0 0)) H := hP
  have hD : va_D A (rm_w a kI kZ (rl_st rm_F0 27 0 0)) := hD
  refine lv_aload_n hx hb d_m_open_5 rfl (lv_at hl 0 rfl) ?_
  refine lv_iload_n hx hb d_m_open_6 rfl (lv_at hl 1 rfl) ?_
  have hpre := rl_BR.pre (av := .ref (a 0) :: [.int jt]) rl_nw0 hP hK hN
  refine rl_callr hS (va_runV (As := [.int jt]) (rest := []) ⟨hx, hb, hml, hown, hG⟩ (k_m_isTitle l D a kI kZ jt _) (cwV 1 hG (rl_gV wd_598 wd_600 wd_6 wd_19 wd_601) rfl rfl rfl (by decide +kernel) ⟨Nat.le_of_ble_eq_true rfl, Nat.le_of_ble_eq_true rfl⟩) ⟨hpre.1, (va_recv hK hP (ci := 5) (q0 := 0) rfl rfl), hpre.2⟩ rfl rfl hl.1 rfl (lv_room (Nat.le_of_ble_eq_true rfl)) d_m_open_7 ⟨Nat.le_of_ble_eq_true rfl, Nat.le_of_ble_eq_true rfl⟩) (fun r locs hw hS => ?_)
  obtain rfl := hw
  refine lv_if_ne (tgt := 15) hx hb d_m_open_10 (by decide) (fun c9 => absurd c9 (by decide)) (fun _ => ?_)
  refine lv_iconst (v := (-1)) hx hb d_m_open_13 (by decide) ?_
  exact W.iret (v := (-1)) hx hb hr (fun t ht hW => ⟨⟨(-1), (rl_st rm_F0 27 0 0), rfl, (show ((-1) : Int32).toInt = -1 by have q9 := rl_nm1; omega), ⟨by rw [ht]; exact hP, hD⟩⟩, hS.F ht⟩) hS.2.2 d_m_open_14
set_option maxHeartbeats 4000000 in
set_option maxRecDepth 100000 in
theorem k_m_limit (l : Launch) (D : va_G) (a : Nat → Nat) (kI kZ : ClassId) (jt jk jd jn : Int32) (sz : Nat) : rl_Ci (S := Nat → Nat → Int32) l ⟨"RightsLimitModel", "limit", "(IIII)I"⟩ (Cond.code ⟨"RightsLimitModel", "limit", "(IIII)I"⟩ prog_7_method_8_code 5 (some .int) :: rl_G) { frames := 2, cells := 0, slots := 0, locals := 43 } D rl_cl (rl_tys kI kZ) [] [.ref (a 0), .int jt, .int jk, .int jd, .int jn] (rm_w a kI kZ rm_F0) sz (fun (r : Int32) (F' : Nat → Nat → Int32) => r.toInt = -1) (fun F' => rm_w a kI kZ F') 0 0 := by
  refine rl_meti (cc := prog_7_method_8_code) (maxL := 5) (ret := (some .int)) (by decide) rfl (Nat.le_of_ble_eq_true rfl) ?_
  intro p e s m below meth c A ls hx hb hr hml hown hts hlocks hnm hP hK hD hS hA hN hl
  have hown : s.vm.findClass "RightsLimitModel" = some m.cls := hown
  have hG : ∀ x ∈ rl_G, x.before _ s = true := fun x h => hts x (List.mem_cons_of_mem _ h)
  have hl : lv_has ls 5 [(0, .ref (a 0)), (1, .int jt), (2, .int jk), (3, .int jd), (4, .int jn)] := hl
  refine lv_aload_n hx hb d_m_limit_0 rfl (lv_at hl 0 rfl) ?_
  refine lv_iconst (v := 0) hx hb d_m_limit_1 (by decide) ?_
  refine va_put (D := D) (ci := 5) (v := .int 0) (ty := .int) (C := "RightsLimitModel") (T := fT_m) (N := 33) hx hb hG fi_m fy_m fo_m fn_m hown hK hP hD hS 0 rfl rfl 0 (by decide) (hG _ wd_483) (fun _ h9 => h9) rfl (by decide +kernel) rfl rfl (Nat.le_of_ble_eq_true rfl) d_m_limit_2 (fun H locs hP hD hS => ?_)
  have hP : va_P D rl_cl (rm_w a kI kZ (rl_st rm_F0 27 0 0)) H := hP
  have hD : va_D A (rm_w a kI kZ (rl_st rm_F0 27 0 0)) := hD
  refine lv_aload_n hx hb d_m_limit_5 rfl (lv_at hl 0 rfl) ?_
  refine lv_iload_n hx hb d_m_limit_6 rfl (lv_at hl 1 rfl) ?_
  have hpre := rl_BR.pre (av := .ref (a 0) :: [.int jt]) rl_nw0 hP hK hN
  refine rl_callr hS (va_runV (As := [.int jt]) (rest := []) ⟨hx, hb, hml, hown, hG⟩ (k_m_isTitle l D a kI kZ jt _) (cwV 1 hG (rl_gV wd_598 wd_600 wd_6 wd_19 wd_601) rfl rfl rfl (by decide +kernel) ⟨Nat.le_of_ble_eq_true rfl, Nat.le_of_ble_eq_true rfl⟩) ⟨hpre.1, (va_recv hK hP (ci := 5) (q0 := 0) rfl rfl), hpre.2⟩ rfl rfl hl.1 rfl (lv_room (Nat.le_of_ble_eq_true rfl)) d_m_limit_7 ⟨Nat.le_of_ble_eq_true rfl, Nat.le_of_ble_eq_true rfl⟩) (fun r locs hw hS => ?_)
  obtain rfl := hw
  refine lv_if_ne (tgt := 15) hx hb d_m_limit_10 (by decide) (fun c9 => absurd c9 (by decide)) (fun _ => ?_)
  refine lv_iconst (v := (-1)) hx hb d_m_limit_13 (by decide) ?_
  exact W.iret (v := (-1)) hx hb hr (fun t ht hW => ⟨⟨(-1), (rl_st rm_F0 27 0 0), rfl, (show ((-1) : Int32).toInt = -1 by have q9 := rl_nm1; omega), ⟨by rw [ht]; exact hP, hD⟩⟩, hS.F ht⟩) hS.2.2 d_m_limit_14
set_option maxHeartbeats 4000000 in
set_option maxRecDepth 100000 in
theorem k_m_licence (l : Launch) (D : va_G) (a : Nat → Nat) (kI kZ : ClassId) (jt jk jn ju jv : Int32) (sz : Nat) : rl_Ci (S := Nat → Nat → Int32) l ⟨"RightsLimitModel", "licence", "(IIIII)I"⟩ (Cond.code ⟨"RightsLimitModel", "licence", "(IIIII)I"⟩ prog_7_method_9_code 6 (some .int) :: rl_G) { frames := 2, cells := 0, slots := 0, locals := 43 } D rl_cl (rl_tys kI kZ) [] [.ref (a 0), .int jt, .int jk, .int jn, .int ju, .int jv] (rm_w a kI kZ rm_F0) sz (fun (r : Int32) (F' : Nat → Nat → Int32) => r.toInt = -1) (fun F' => rm_w a kI kZ F') 0 0 := by
  refine rl_meti (cc := prog_7_method_9_code) (maxL := 6) (ret := (some .int)) (by decide) rfl (Nat.le_of_ble_eq_true rfl) ?_
  intro p e s m below meth c A ls hx hb hr hml hown hts hlocks hnm hP hK hD hS hA hN hl
  have hown : s.vm.findClass "RightsLimitModel" = some m.cls := hown
  have hG : ∀ x ∈ rl_G, x.before _ s = true := fun x h => hts x (List.mem_cons_of_mem _ h)
  have hl : lv_has ls 6 [(0, .ref (a 0)), (1, .int jt), (2, .int jk), (3, .int jn), (4, .int ju), (5, .int jv)] := hl
  refine lv_aload_n hx hb d_m_licence_0 rfl (lv_at hl 0 rfl) ?_
  refine lv_iconst (v := 0) hx hb d_m_licence_1 (by decide) ?_
  refine va_put (D := D) (ci := 5) (v := .int 0) (ty := .int) (C := "RightsLimitModel") (T := fT_m) (N := 33) hx hb hG fi_m fy_m fo_m fn_m hown hK hP hD hS 0 rfl rfl 0 (by decide) (hG _ wd_483) (fun _ h9 => h9) rfl (by decide +kernel) rfl rfl (Nat.le_of_ble_eq_true rfl) d_m_licence_2 (fun H locs hP hD hS => ?_)
  have hP : va_P D rl_cl (rm_w a kI kZ (rl_st rm_F0 27 0 0)) H := hP
  have hD : va_D A (rm_w a kI kZ (rl_st rm_F0 27 0 0)) := hD
  refine lv_aload_n hx hb d_m_licence_5 rfl (lv_at hl 0 rfl) ?_
  refine lv_iload_n hx hb d_m_licence_6 rfl (lv_at hl 1 rfl) ?_
  have hpre := rl_BR.pre (av := .ref (a 0) :: [.int jt]) rl_nw0 hP hK hN
  refine rl_callr hS (va_runV (As := [.int jt]) (rest := []) ⟨hx, hb, hml, hown, hG⟩ (k_m_isTitle l D a kI kZ jt _) (cwV 1 hG (rl_gV wd_598 wd_600 wd_6 wd_19 wd_601) rfl rfl rfl (by decide +kernel) ⟨Nat.le_of_ble_eq_true rfl, Nat.le_of_ble_eq_true rfl⟩) ⟨hpre.1, (va_recv hK hP (ci := 5) (q0 := 0) rfl rfl), hpre.2⟩ rfl rfl hl.1 rfl (lv_room (Nat.le_of_ble_eq_true rfl)) d_m_licence_7 ⟨Nat.le_of_ble_eq_true rfl, Nat.le_of_ble_eq_true rfl⟩) (fun r locs hw hS => ?_)
  obtain rfl := hw
  refine lv_if_ne (tgt := 15) hx hb d_m_licence_10 (by decide) (fun c9 => absurd c9 (by decide)) (fun _ => ?_)
  refine lv_iconst (v := (-1)) hx hb d_m_licence_13 (by decide) ?_
  exact W.iret (v := (-1)) hx hb hr (fun t ht hW => ⟨⟨(-1), (rl_st rm_F0 27 0 0), rfl, (show ((-1) : Int32).toInt = -1 by have q9 := rl_nm1; omega), ⟨by rw [ht]; exact hP, hD⟩⟩, hS.F ht⟩) hS.2.2 d_m_licence_14
set_option maxHeartbeats 4000000 in
set_option maxRecDepth 100000 in
theorem k_m_fee (l : Launch) (D : va_G) (a : Nat → Nat) (kI kZ : ClassId) (jp jn : Int32) (sz : Nat) : rl_Ci (S := Nat → Nat → Int32) l ⟨"RightsLimitModel", "fee", "(II)I"⟩ (Cond.code ⟨"RightsLimitModel", "fee", "(II)I"⟩ prog_7_method_10_code 3 (some .int) :: rl_G) { frames := 1, cells := 0, slots := 0, locals := 22 } D rl_cl (rl_tys kI kZ) [] [.ref (a 0), .int jp, .int jn] (rm_w a kI kZ rm_F0) sz (fun (r : Int32) (F' : Nat → Nat → Int32) => (((0 ≤ jp.toInt ∧ jp.toInt ≤ 99) ∧ (0 ≤ jn.toInt ∧ jn.toInt ≤ 10000)) ∧ r.toInt = 1) ∨ (¬ ((0 ≤ jp.toInt ∧ jp.toInt ≤ 99) ∧ (0 ≤ jn.toInt ∧ jn.toInt ≤ 10000)) ∧ r.toInt = -2)) (fun F' => rm_w a kI kZ F') 0 0 := by
  refine rl_meti (cc := prog_7_method_10_code) (maxL := 3) (ret := (some .int)) (by decide) rfl (Nat.le_of_ble_eq_true rfl) ?_
  intro p e s m below meth c A ls hx hb hr hml hown hts hlocks hnm hP hK hD hS hA hN hl
  have hown : s.vm.findClass "RightsLimitModel" = some m.cls := hown
  have hG : ∀ x ∈ rl_G, x.before _ s = true := fun x h => hts x (List.mem_cons_of_mem _ h)
  have hl : lv_has ls 3 [(0, .ref (a 0)), (1, .int jp), (2, .int jn)] := hl
  refine lv_aload_n hx hb d_m_fee_0 rfl (lv_at hl 0 rfl) ?_
  refine lv_iconst (v := 0) hx hb d_m_fee_1 (by decide) ?_
  refine va_put (D := D) (ci := 5) (v := .int 0) (ty := .int) (C := "RightsLimitModel") (T := fT_m) (N := 33) hx hb hG fi_m fy_m fo_m fn_m hown hK hP hD hS 0 rfl rfl 0 (by decide) (hG _ wd_483) (fun _ h9 => h9) rfl (by decide +kernel) rfl rfl (Nat.le_of_ble_eq_true rfl) d_m_fee_2 (fun H locs hP hD hS => ?_)
  have hP : va_P D rl_cl (rm_w a kI kZ (rl_st rm_F0 27 0 0)) H := hP
  have hD : va_D A (rm_w a kI kZ (rl_st rm_F0 27 0 0)) := hD
  refine lv_iload_n hx hb d_m_fee_5 rfl (lv_at hl 1 rfl) ?_
  refine lv_iconst (v := 0) hx hb d_m_fee_6 (by decide) ?_
  refine lv_bipush (v := 99) hx hb d_m_fee_7 (by decide) ?_
  refine rl_callr hS (va_runS (As := [.int jp, .int 0, .int 99]) (rest := []) ⟨hx, hb, hml, hown, hG⟩ (k_m_in l D a kI kZ jp 0 99 _) (cwS 3 hG (rl_gS wd_591 wd_592 wd_19 wd_593) rfl rfl rfl (by decide +kernel) ⟨Nat.le_of_ble_eq_true rfl, Nat.le_of_ble_eq_true rfl⟩) (rl_BR.pre rl_nw0 rl_P0 hK hN) rfl rfl hl.1 rfl (lv_room (Nat.le_of_ble_eq_true rfl)) d_m_fee_9 ⟨Nat.le_of_ble_eq_true rfl, Nat.le_of_ble_eq_true rfl⟩) (fun r locs hw hS => ?_)
  try simp only [rl_n0, rl_n99] at hw
  rcases hw with ⟨rfl, h1⟩ | ⟨rfl, h1⟩
  · refine lv_if_eq (tgt := 26) hx hb d_m_fee_12 (by decide) (fun c9 => absurd c9 (by decide)) (fun _ => ?_)
    refine lv_iload_n hx hb d_m_fee_15 rfl (lv_at hl 2 rfl) ?_
    refine lv_iconst (v := 0) hx hb d_m_fee_16 (by decide) ?_
    refine lv_sipush (v := 10000) hx hb d_m_fee_17 (by decide) ?_
    refine rl_callr hS (va_runS (As := [.int jn, .int 0, .int 10000]) (rest := []) ⟨hx, hb, hml, hown, hG⟩ (k_m_in l D a kI kZ jn 0 10000 _) (cwS 3 hG (rl_gS wd_591 wd_592 wd_19 wd_593) rfl rfl rfl (by decide +kernel) ⟨Nat.le_of_ble_eq_true rfl, Nat.le_of_ble_eq_true rfl⟩) (rl_BR.pre rl_nw0 rl_P0 hK hN) rfl rfl hl.1 rfl (lv_room (Nat.le_of_ble_eq_true rfl)) d_m_fee_20 ⟨Nat.le_of_ble_eq_true rfl, Nat.le_of_ble_eq_true rfl⟩) (fun r locs hw hS => ?_)
    try simp only [rl_n0, rl_n10000] at hw
    rcases hw with ⟨rfl, h2⟩ | ⟨rfl, h2⟩
    · refine lv_if_ne (tgt := 29) hx hb d_m_fee_23 (by decide) (fun _ => ?_) (fun c9 => absurd c9 (by decide))
      refine lv_aload_n hx hb d_m_fee_29 rfl (lv_at hl 0 rfl) ?_
      refine va_get (D := D) (ci := 5) (v := .ref (a 5)) (C := "RightsLimitModel") (T := fT_m) (N := 33) hx hb hG fi_m hown hK hP 0 rfl rfl 7 (by decide) (hG _ wd_490) (fun _ h9 => h9) rfl d_m_fee_30 ?_
      refine lv_iload_n hx hb d_m_fee_33 rfl (lv_at hl 1 rfl) ?_
      refine lv_iload_n hx hb d_m_fee_34 rfl (lv_at hl 2 rfl) ?_
      refine va_iast hx hb hK hP hD hS 5 0 rfl rfl (rl_in (n := 100) (by omega) (by omega)) d_m_fee_35 (fun H locs hP hD hS => ?_)
      have hP : va_P D rl_cl (rm_w a kI kZ (rl_st (rl_st rm_F0 27 0 0) 4 jp.toNatClampNeg jn)) H := hP
      have hD : va_D A (rm_w a kI kZ (rl_st (rl_st rm_F0 27 0 0) 4 jp.toNatClampNeg jn)) := hD
      refine lv_iconst (v := 1) hx hb d_m_fee_36 (by decide) ?_
      exact W.iret (v := 1) hx hb hr (fun t ht hW => ⟨⟨1, (rl_st (rl_st rm_F0 27 0 0) 4 jp.toNatClampNeg jn), rfl, (show (((0 ≤ jp.toInt ∧ jp.toInt ≤ 99) ∧ (0 ≤ jn.toInt ∧ jn.toInt ≤ 10000)) ∧ (1 : Int32).toInt = 1) ∨ (¬ ((0 ≤ jp.toInt ∧ jp.toInt ≤ 99) ∧ (0 ≤ jn.toInt ∧ jn.toInt ≤ 10000)) ∧ (1 : Int32).toInt = -2) by have q9 := rl_n1; omega), ⟨by rw [ht]; exact hP, hD⟩⟩, hS.F ht⟩) hS.2.2 d_m_fee_37
    · refine lv_if_ne (tgt := 29) hx hb d_m_fee_23 (by decide) (fun c9 => absurd c9 (by decide)) (fun _ => ?_)
      refine lv_bipush (v := (-2)) hx hb d_m_fee_26 (by decide) ?_
      exact W.iret (v := (-2)) hx hb hr (fun t ht hW => ⟨⟨(-2), (rl_st rm_F0 27 0 0), rfl, (show (((0 ≤ jp.toInt ∧ jp.toInt ≤ 99) ∧ (0 ≤ jn.toInt ∧ jn.toInt ≤ 10000)) ∧ ((-2) : Int32).toInt = 1) ∨ (¬ ((0 ≤ jp.toInt ∧ jp.toInt ≤ 99) ∧ (0 ≤ jn.toInt ∧ jn.toInt ≤ 10000)) ∧ ((-2) : Int32).toInt = -2) by have q9 := rl_nm2; omega), ⟨by rw [ht]; exact hP, hD⟩⟩, hS.F ht⟩) hS.2.2 d_m_fee_28
  · refine lv_if_eq (tgt := 26) hx hb d_m_fee_12 (by decide) (fun _ => ?_) (fun c9 => absurd c9 (by decide))
    refine lv_bipush (v := (-2)) hx hb d_m_fee_26 (by decide) ?_
    exact W.iret (v := (-2)) hx hb hr (fun t ht hW => ⟨⟨(-2), (rl_st rm_F0 27 0 0), rfl, (show (((0 ≤ jp.toInt ∧ jp.toInt ≤ 99) ∧ (0 ≤ jn.toInt ∧ jn.toInt ≤ 10000)) ∧ ((-2) : Int32).toInt = 1) ∨ (¬ ((0 ≤ jp.toInt ∧ jp.toInt ≤ 99) ∧ (0 ≤ jn.toInt ∧ jn.toInt ≤ 10000)) ∧ ((-2) : Int32).toInt = -2) by have q9 := rl_nm2; omega), ⟨by rw [ht]; exact hP, hD⟩⟩, hS.F ht⟩) hS.2.2 d_m_fee_28
set_option maxHeartbeats 4000000 in
set_option maxRecDepth 100000 in
theorem k_m_ask (l : Launch) (D : va_G) (a : Nat → Nat) (kI kZ : ClassId) (jn jt jk jg ju : Int32) (sz : Nat) : rl_Ci (S := Nat → Nat → Int32) l ⟨"RightsLimitModel", "ask", "(IIIII)I"⟩ (Cond.code ⟨"RightsLimitModel", "ask", "(IIIII)I"⟩ prog_7_method_15_code 8 (some .int) :: rl_G) { frames := 2, cells := 0, slots := 0, locals := 43 } D rl_cl (rl_tys kI kZ) [] [.ref (a 0), .int jn, .int jt, .int jk, .int jg, .int ju] (rm_w a kI kZ rm_F0) sz (fun (r : Int32) (F' : Nat → Nat → Int32) => r.toInt = -1) (fun F' => rm_w a kI kZ F') 0 0 := by
  refine rl_meti (cc := prog_7_method_15_code) (maxL := 8) (ret := (some .int)) (by decide) rfl (Nat.le_of_ble_eq_true rfl) ?_
  intro p e s m below meth c A ls hx hb hr hml hown hts hlocks hnm hP hK hD hS hA hN hl
  have hown : s.vm.findClass "RightsLimitModel" = some m.cls := hown
  have hG : ∀ x ∈ rl_G, x.before _ s = true := fun x h => hts x (List.mem_cons_of_mem _ h)
  have hl : lv_has ls 8 [(0, .ref (a 0)), (1, .int jn), (2, .int jt), (3, .int jk), (4, .int jg), (5, .int ju)] := hl
  refine lv_aload_n hx hb d_m_ask_0 rfl (lv_at hl 0 rfl) ?_
  refine lv_iconst (v := 0) hx hb d_m_ask_1 (by decide) ?_
  refine va_put (D := D) (ci := 5) (v := .int 0) (ty := .int) (C := "RightsLimitModel") (T := fT_m) (N := 33) hx hb hG fi_m fy_m fo_m fn_m hown hK hP hD hS 0 rfl rfl 0 (by decide) (hG _ wd_483) (fun _ h9 => h9) rfl (by decide +kernel) rfl rfl (Nat.le_of_ble_eq_true rfl) d_m_ask_2 (fun H locs hP hD hS => ?_)
  have hP : va_P D rl_cl (rm_w a kI kZ (rl_st rm_F0 27 0 0)) H := hP
  have hD : va_D A (rm_w a kI kZ (rl_st rm_F0 27 0 0)) := hD
  refine lv_aload_n hx hb d_m_ask_5 rfl (lv_at hl 0 rfl) ?_
  refine lv_iload_n hx hb d_m_ask_6 rfl (lv_at hl 2 rfl) ?_
  have hpre := rl_BR.pre (av := .ref (a 0) :: [.int jt]) rl_nw0 hP hK hN
  refine rl_callr hS (va_runV (As := [.int jt]) (rest := []) ⟨hx, hb, hml, hown, hG⟩ (k_m_isTitle l D a kI kZ jt _) (cwV 1 hG (rl_gV wd_598 wd_600 wd_6 wd_19 wd_601) rfl rfl rfl (by decide +kernel) ⟨Nat.le_of_ble_eq_true rfl, Nat.le_of_ble_eq_true rfl⟩) ⟨hpre.1, (va_recv hK hP (ci := 5) (q0 := 0) rfl rfl), hpre.2⟩ rfl rfl hl.1 rfl (lv_room (Nat.le_of_ble_eq_true rfl)) d_m_ask_7 ⟨Nat.le_of_ble_eq_true rfl, Nat.le_of_ble_eq_true rfl⟩) (fun r locs hw hS => ?_)
  obtain rfl := hw
  refine lv_if_ne (tgt := 15) hx hb d_m_ask_10 (by decide) (fun c9 => absurd c9 (by decide)) (fun _ => ?_)
  refine lv_iconst (v := (-1)) hx hb d_m_ask_13 (by decide) ?_
  exact W.iret (v := (-1)) hx hb hr (fun t ht hW => ⟨⟨(-1), (rl_st rm_F0 27 0 0), rfl, (show ((-1) : Int32).toInt = -1 by have q9 := rl_nm1; omega), ⟨by rw [ht]; exact hP, hD⟩⟩, hS.F ht⟩) hS.2.2 d_m_ask_14
set_option maxHeartbeats 4000000 in
set_option maxRecDepth 100000 in
theorem k_m_why (l : Launch) (D : va_G) (a : Nat → Nat) (kI kZ : ClassId) (sz : Nat) : rl_Ci (S := Nat → Nat → Int32) l ⟨"RightsLimitModel", "why", "()I"⟩ (Cond.code ⟨"RightsLimitModel", "why", "()I"⟩ prog_7_method_16_code 1 (some .int) :: rl_G) { frames := 0, cells := 0, slots := 0, locals := 0 } D rl_cl (rl_tys kI kZ) [] [.ref (a 0)] (rm_w a kI kZ rm_F0) sz (fun (r : Int32) (F' : Nat → Nat → Int32) => r.toInt = -1) (fun F' => rm_w a kI kZ F') 0 0 := by
  refine rl_meti (cc := prog_7_method_16_code) (maxL := 1) (ret := (some .int)) (by decide) rfl (Nat.le_of_ble_eq_true rfl) ?_
  intro p e s m below meth c A ls hx hb hr hml hown hts hlocks hnm hP hK hD hS hA hN hl
  have hown : s.vm.findClass "RightsLimitModel" = some m.cls := hown
  have hG : ∀ x ∈ rl_G, x.before _ s = true := fun x h => hts x (List.mem_cons_of_mem _ h)
  have hl : lv_has ls 1 [(0, .ref (a 0))] := hl
  refine lv_aload_n hx hb d_m_why_0 rfl (lv_at hl 0 rfl) ?_
  refine lv_iconst (v := 0) hx hb d_m_why_1 (by decide) ?_
  refine va_put (D := D) (ci := 5) (v := .int 0) (ty := .int) (C := "RightsLimitModel") (T := fT_m) (N := 33) hx hb hG fi_m fy_m fo_m fn_m hown hK hP hD hS 0 rfl rfl 0 (by decide) (hG _ wd_483) (fun _ h9 => h9) rfl (by decide +kernel) rfl rfl (Nat.le_of_ble_eq_true rfl) d_m_why_2 (fun H locs hP hD hS => ?_)
  have hP : va_P D rl_cl (rm_w a kI kZ (rl_st rm_F0 27 0 0)) H := hP
  have hD : va_D A (rm_w a kI kZ (rl_st rm_F0 27 0 0)) := hD
  refine lv_aload_n hx hb d_m_why_5 rfl (lv_at hl 0 rfl) ?_
  refine va_get (D := D) (ci := 5) (v := .int (-1)) (C := "RightsLimitModel") (T := fT_m) (N := 33) hx hb hG fi_m hown hK hP 0 rfl rfl 32 (by decide) (hG _ wd_515) (fun _ h9 => h9) rfl d_m_why_6 ?_
  exact W.iret (v := (-1)) hx hb hr (fun t ht hW => ⟨⟨(-1), (rl_st rm_F0 27 0 0), rfl, (show ((-1) : Int32).toInt = -1 by have q9 := rl_nm1; omega), ⟨by rw [ht]; exact hP, hD⟩⟩, hS.F ht⟩) hS.2.2 d_m_why_9
set_option maxHeartbeats 4000000 in
set_option maxRecDepth 100000 in
theorem k_m_give (l : Launch) (D : va_G) (a : Nat → Nat) (kI kZ : ClassId) (jn jg jb : Int32) (sz : Nat) : rl_Ci (S := Nat → Nat → Int32) l ⟨"RightsLimitModel", "give", "(IIZ)I"⟩ (Cond.code ⟨"RightsLimitModel", "give", "(IIZ)I"⟩ prog_7_method_17_code 4 (some .int) :: rl_G) { frames := 1, cells := 0, slots := 0, locals := 22 } D rl_cl (rl_tys kI kZ) [] [.ref (a 0), .int jn, .int jg, .int jb] (rm_w a kI kZ rm_F0) sz (fun (r : Int32) (F' : Nat → Nat → Int32) => (((0 ≤ jn.toInt ∧ jn.toInt ≤ 99) ∧ (1 ≤ jg.toInt ∧ jg.toInt ≤ 9)) ∧ r.toInt = 1) ∨ (¬ ((0 ≤ jn.toInt ∧ jn.toInt ≤ 99) ∧ (1 ≤ jg.toInt ∧ jg.toInt ≤ 9)) ∧ r.toInt = -2)) (fun F' => rm_w a kI kZ F') 0 0 := by
  refine rl_meti (cc := prog_7_method_17_code) (maxL := 4) (ret := (some .int)) (by decide) rfl (Nat.le_of_ble_eq_true rfl) ?_
  intro p e s m below meth c A ls hx hb hr hml hown hts hlocks hnm hP hK hD hS hA hN hl
  have hown : s.vm.findClass "RightsLimitModel" = some m.cls := hown
  have hG : ∀ x ∈ rl_G, x.before _ s = true := fun x h => hts x (List.mem_cons_of_mem _ h)
  have hl : lv_has ls 4 [(0, .ref (a 0)), (1, .int jn), (2, .int jg), (3, .int jb)] := hl
  refine lv_aload_n hx hb d_m_give_0 rfl (lv_at hl 0 rfl) ?_
  refine lv_iconst (v := 0) hx hb d_m_give_1 (by decide) ?_
  refine va_put (D := D) (ci := 5) (v := .int 0) (ty := .int) (C := "RightsLimitModel") (T := fT_m) (N := 33) hx hb hG fi_m fy_m fo_m fn_m hown hK hP hD hS 0 rfl rfl 0 (by decide) (hG _ wd_483) (fun _ h9 => h9) rfl (by decide +kernel) rfl rfl (Nat.le_of_ble_eq_true rfl) d_m_give_2 (fun H locs hP hD hS => ?_)
  have hP : va_P D rl_cl (rm_w a kI kZ (rl_st rm_F0 27 0 0)) H := hP
  have hD : va_D A (rm_w a kI kZ (rl_st rm_F0 27 0 0)) := hD
  refine lv_iload_n hx hb d_m_give_5 rfl (lv_at hl 1 rfl) ?_
  refine lv_iconst (v := 0) hx hb d_m_give_6 (by decide) ?_
  refine lv_bipush (v := 99) hx hb d_m_give_7 (by decide) ?_
  refine rl_callr hS (va_runS (As := [.int jn, .int 0, .int 99]) (rest := []) ⟨hx, hb, hml, hown, hG⟩ (k_m_in l D a kI kZ jn 0 99 _) (cwS 3 hG (rl_gS wd_591 wd_592 wd_19 wd_593) rfl rfl rfl (by decide +kernel) ⟨Nat.le_of_ble_eq_true rfl, Nat.le_of_ble_eq_true rfl⟩) (rl_BR.pre rl_nw0 rl_P0 hK hN) rfl rfl hl.1 rfl (lv_room (Nat.le_of_ble_eq_true rfl)) d_m_give_9 ⟨Nat.le_of_ble_eq_true rfl, Nat.le_of_ble_eq_true rfl⟩) (fun r locs hw hS => ?_)
  try simp only [rl_n0, rl_n99] at hw
  rcases hw with ⟨rfl, h1⟩ | ⟨rfl, h1⟩
  · refine lv_if_eq (tgt := 25) hx hb d_m_give_12 (by decide) (fun c9 => absurd c9 (by decide)) (fun _ => ?_)
    refine lv_iload_n hx hb d_m_give_15 rfl (lv_at hl 2 rfl) ?_
    refine lv_iconst (v := 1) hx hb d_m_give_16 (by decide) ?_
    refine lv_bipush (v := 9) hx hb d_m_give_17 (by decide) ?_
    refine rl_callr hS (va_runS (As := [.int jg, .int 1, .int 9]) (rest := []) ⟨hx, hb, hml, hown, hG⟩ (k_m_in l D a kI kZ jg 1 9 _) (cwS 3 hG (rl_gS wd_591 wd_592 wd_19 wd_593) rfl rfl rfl (by decide +kernel) ⟨Nat.le_of_ble_eq_true rfl, Nat.le_of_ble_eq_true rfl⟩) (rl_BR.pre rl_nw0 rl_P0 hK hN) rfl rfl hl.1 rfl (lv_room (Nat.le_of_ble_eq_true rfl)) d_m_give_19 ⟨Nat.le_of_ble_eq_true rfl, Nat.le_of_ble_eq_true rfl⟩) (fun r locs hw hS => ?_)
    try simp only [rl_n1, rl_n9] at hw
    rcases hw with ⟨rfl, h2⟩ | ⟨rfl, h2⟩
    · refine lv_if_ne (tgt := 28) hx hb d_m_give_22 (by decide) (fun _ => ?_) (fun c9 => absurd c9 (by decide))
      refine lv_aload_n hx hb d_m_give_28 rfl (lv_at hl 0 rfl) ?_
      refine va_get (D := D) (ci := 5) (v := .ref (a 6)) (C := "RightsLimitModel") (T := fT_m) (N := 33) hx hb hG fi_m hown hK hP 0 rfl rfl 8 (by decide) (hG _ wd_491) (fun _ h9 => h9) rfl d_m_give_29 ?_
      refine lv_bipush (v := 10) hx hb d_m_give_32 (by decide) ?_
      refine lv_iload_n hx hb d_m_give_34 rfl (lv_at hl 1 rfl) ?_
      refine lv_imul hx hb d_m_give_35 ?_
      refine lv_topi (fun v3 ev3 => ?_)
      have iv3 : v3.toInt = 10 * jn.toInt := by rw [ev3]; exact rl_mulk (by decide) (by omega) (by omega)
      refine lv_iload_n hx hb d_m_give_36 rfl (lv_at hl 2 rfl) ?_
      refine lv_iadd hx hb d_m_give_37 ?_
      refine lv_topi (fun v4 ev4 => ?_)
      have iv4 : v4.toInt = v3.toInt + jg.toInt := by rw [ev4]; exact rl_addv (by omega) (by omega)
      refine lv_iload_n hx hb d_m_give_38 rfl (lv_at hl 3 rfl) ?_
      refine va_zast hx hb hK hP hD hS 6 1 rfl rfl (rl_in (n := 1000) (by omega) (by omega)) d_m_give_39 (fun H locs hP hD hS => ?_)
      have hP : va_P D rl_cl (rm_w a kI kZ (rl_st (rl_st rm_F0 27 0 0) 5 v4.toNatClampNeg (vp_nar .boolean jb))) H := hP
      have hD : va_D A (rm_w a kI kZ (rl_st (rl_st rm_F0 27 0 0) 5 v4.toNatClampNeg (vp_nar .boolean jb))) := hD
      refine lv_iconst (v := 1) hx hb d_m_give_40 (by decide) ?_
      exact W.iret (v := 1) hx hb hr (fun t ht hW => ⟨⟨1, (rl_st (rl_st rm_F0 27 0 0) 5 v4.toNatClampNeg (vp_nar .boolean jb)), rfl, (show (((0 ≤ jn.toInt ∧ jn.toInt ≤ 99) ∧ (1 ≤ jg.toInt ∧ jg.toInt ≤ 9)) ∧ (1 : Int32).toInt = 1) ∨ (¬ ((0 ≤ jn.toInt ∧ jn.toInt ≤ 99) ∧ (1 ≤ jg.toInt ∧ jg.toInt ≤ 9)) ∧ (1 : Int32).toInt = -2) by have q9 := rl_n1; omega), ⟨by rw [ht]; exact hP, hD⟩⟩, hS.F ht⟩) hS.2.2 d_m_give_41
    · refine lv_if_ne (tgt := 28) hx hb d_m_give_22 (by decide) (fun c9 => absurd c9 (by decide)) (fun _ => ?_)
      refine lv_bipush (v := (-2)) hx hb d_m_give_25 (by decide) ?_
      exact W.iret (v := (-2)) hx hb hr (fun t ht hW => ⟨⟨(-2), (rl_st rm_F0 27 0 0), rfl, (show (((0 ≤ jn.toInt ∧ jn.toInt ≤ 99) ∧ (1 ≤ jg.toInt ∧ jg.toInt ≤ 9)) ∧ ((-2) : Int32).toInt = 1) ∨ (¬ ((0 ≤ jn.toInt ∧ jn.toInt ≤ 99) ∧ (1 ≤ jg.toInt ∧ jg.toInt ≤ 9)) ∧ ((-2) : Int32).toInt = -2) by have q9 := rl_nm2; omega), ⟨by rw [ht]; exact hP, hD⟩⟩, hS.F ht⟩) hS.2.2 d_m_give_27
  · refine lv_if_eq (tgt := 25) hx hb d_m_give_12 (by decide) (fun _ => ?_) (fun c9 => absurd c9 (by decide))
    refine lv_bipush (v := (-2)) hx hb d_m_give_25 (by decide) ?_
    exact W.iret (v := (-2)) hx hb hr (fun t ht hW => ⟨⟨(-2), (rl_st rm_F0 27 0 0), rfl, (show (((0 ≤ jn.toInt ∧ jn.toInt ≤ 99) ∧ (1 ≤ jg.toInt ∧ jg.toInt ≤ 9)) ∧ ((-2) : Int32).toInt = 1) ∨ (¬ ((0 ≤ jn.toInt ∧ jn.toInt ≤ 99) ∧ (1 ≤ jg.toInt ∧ jg.toInt ≤ 9)) ∧ ((-2) : Int32).toInt = -2) by have q9 := rl_nm2; omega), ⟨by rw [ht]; exact hP, hD⟩⟩, hS.F ht⟩) hS.2.2 d_m_give_27
set_option maxHeartbeats 4000000 in
set_option maxRecDepth 100000 in
theorem k_m_right (l : Launch) (D : va_G) (a : Nat → Nat) (kI kZ : ClassId) (jt jg : Int32) (sz : Nat) : rl_Ci (S := Nat → Nat → Int32) l ⟨"RightsLimitModel", "right", "(II)I"⟩ (Cond.code ⟨"RightsLimitModel", "right", "(II)I"⟩ prog_7_method_18_code 3 (some .int) :: rl_G) { frames := 2, cells := 0, slots := 0, locals := 43 } D rl_cl (rl_tys kI kZ) [] [.ref (a 0), .int jt, .int jg] (rm_w a kI kZ rm_F0) sz (fun (r : Int32) (F' : Nat → Nat → Int32) => r.toInt = -1) (fun F' => rm_w a kI kZ F') 0 0 := by
  refine rl_meti (cc := prog_7_method_18_code) (maxL := 3) (ret := (some .int)) (by decide) rfl (Nat.le_of_ble_eq_true rfl) ?_
  intro p e s m below meth c A ls hx hb hr hml hown hts hlocks hnm hP hK hD hS hA hN hl
  have hown : s.vm.findClass "RightsLimitModel" = some m.cls := hown
  have hG : ∀ x ∈ rl_G, x.before _ s = true := fun x h => hts x (List.mem_cons_of_mem _ h)
  have hl : lv_has ls 3 [(0, .ref (a 0)), (1, .int jt), (2, .int jg)] := hl
  refine lv_aload_n hx hb d_m_right_0 rfl (lv_at hl 0 rfl) ?_
  refine lv_iconst (v := 0) hx hb d_m_right_1 (by decide) ?_
  refine va_put (D := D) (ci := 5) (v := .int 0) (ty := .int) (C := "RightsLimitModel") (T := fT_m) (N := 33) hx hb hG fi_m fy_m fo_m fn_m hown hK hP hD hS 0 rfl rfl 0 (by decide) (hG _ wd_483) (fun _ h9 => h9) rfl (by decide +kernel) rfl rfl (Nat.le_of_ble_eq_true rfl) d_m_right_2 (fun H locs hP hD hS => ?_)
  have hP : va_P D rl_cl (rm_w a kI kZ (rl_st rm_F0 27 0 0)) H := hP
  have hD : va_D A (rm_w a kI kZ (rl_st rm_F0 27 0 0)) := hD
  refine lv_aload_n hx hb d_m_right_5 rfl (lv_at hl 0 rfl) ?_
  refine lv_iload_n hx hb d_m_right_6 rfl (lv_at hl 1 rfl) ?_
  have hpre := rl_BR.pre (av := .ref (a 0) :: [.int jt]) rl_nw0 hP hK hN
  refine rl_callr hS (va_runV (As := [.int jt]) (rest := []) ⟨hx, hb, hml, hown, hG⟩ (k_m_isTitle l D a kI kZ jt _) (cwV 1 hG (rl_gV wd_598 wd_600 wd_6 wd_19 wd_601) rfl rfl rfl (by decide +kernel) ⟨Nat.le_of_ble_eq_true rfl, Nat.le_of_ble_eq_true rfl⟩) ⟨hpre.1, (va_recv hK hP (ci := 5) (q0 := 0) rfl rfl), hpre.2⟩ rfl rfl hl.1 rfl (lv_room (Nat.le_of_ble_eq_true rfl)) d_m_right_7 ⟨Nat.le_of_ble_eq_true rfl, Nat.le_of_ble_eq_true rfl⟩) (fun r locs hw hS => ?_)
  obtain rfl := hw
  refine lv_if_ne (tgt := 15) hx hb d_m_right_10 (by decide) (fun c9 => absurd c9 (by decide)) (fun _ => ?_)
  refine lv_iconst (v := (-1)) hx hb d_m_right_13 (by decide) ?_
  exact W.iret (v := (-1)) hx hb hr (fun t ht hW => ⟨⟨(-1), (rl_st rm_F0 27 0 0), rfl, (show ((-1) : Int32).toInt = -1 by have q9 := rl_nm1; omega), ⟨by rw [ht]; exact hP, hD⟩⟩, hS.F ht⟩) hS.2.2 d_m_right_14
set_option maxHeartbeats 4000000 in
set_option maxRecDepth 100000 in
theorem k_m_waive (l : Launch) (D : va_G) (a : Nat → Nat) (kI kZ : ClassId) (jt jn : Int32) (sz : Nat) : rl_Ci (S := Nat → Nat → Int32) l ⟨"RightsLimitModel", "waive", "(II)I"⟩ (Cond.code ⟨"RightsLimitModel", "waive", "(II)I"⟩ prog_7_method_19_code 3 (some .int) :: rl_G) { frames := 2, cells := 0, slots := 0, locals := 43 } D rl_cl (rl_tys kI kZ) [] [.ref (a 0), .int jt, .int jn] (rm_w a kI kZ rm_F0) sz (fun (r : Int32) (F' : Nat → Nat → Int32) => r.toInt = -1) (fun F' => rm_w a kI kZ F') 0 0 := by
  refine rl_meti (cc := prog_7_method_19_code) (maxL := 3) (ret := (some .int)) (by decide) rfl (Nat.le_of_ble_eq_true rfl) ?_
  intro p e s m below meth c A ls hx hb hr hml hown hts hlocks hnm hP hK hD hS hA hN hl
  have hown : s.vm.findClass "RightsLimitModel" = some m.cls := hown
  have hG : ∀ x ∈ rl_G, x.before _ s = true := fun x h => hts x (List.mem_cons_of_mem _ h)
  have hl : lv_has ls 3 [(0, .ref (a 0)), (1, .int jt), (2, .int jn)] := hl
  refine lv_aload_n hx hb d_m_waive_0 rfl (lv_at hl 0 rfl) ?_
  refine lv_iconst (v := 0) hx hb d_m_waive_1 (by decide) ?_
  refine va_put (D := D) (ci := 5) (v := .int 0) (ty := .int) (C := "RightsLimitModel") (T := fT_m) (N := 33) hx hb hG fi_m fy_m fo_m fn_m hown hK hP hD hS 0 rfl rfl 0 (by decide) (hG _ wd_483) (fun _ h9 => h9) rfl (by decide +kernel) rfl rfl (Nat.le_of_ble_eq_true rfl) d_m_waive_2 (fun H locs hP hD hS => ?_)
  have hP : va_P D rl_cl (rm_w a kI kZ (rl_st rm_F0 27 0 0)) H := hP
  have hD : va_D A (rm_w a kI kZ (rl_st rm_F0 27 0 0)) := hD
  refine lv_aload_n hx hb d_m_waive_5 rfl (lv_at hl 0 rfl) ?_
  refine lv_iload_n hx hb d_m_waive_6 rfl (lv_at hl 1 rfl) ?_
  have hpre := rl_BR.pre (av := .ref (a 0) :: [.int jt]) rl_nw0 hP hK hN
  refine rl_callr hS (va_runV (As := [.int jt]) (rest := []) ⟨hx, hb, hml, hown, hG⟩ (k_m_isTitle l D a kI kZ jt _) (cwV 1 hG (rl_gV wd_598 wd_600 wd_6 wd_19 wd_601) rfl rfl rfl (by decide +kernel) ⟨Nat.le_of_ble_eq_true rfl, Nat.le_of_ble_eq_true rfl⟩) ⟨hpre.1, (va_recv hK hP (ci := 5) (q0 := 0) rfl rfl), hpre.2⟩ rfl rfl hl.1 rfl (lv_room (Nat.le_of_ble_eq_true rfl)) d_m_waive_7 ⟨Nat.le_of_ble_eq_true rfl, Nat.le_of_ble_eq_true rfl⟩) (fun r locs hw hS => ?_)
  obtain rfl := hw
  refine lv_if_ne (tgt := 15) hx hb d_m_waive_10 (by decide) (fun c9 => absurd c9 (by decide)) (fun _ => ?_)
  refine lv_iconst (v := (-1)) hx hb d_m_waive_13 (by decide) ?_
  exact W.iret (v := (-1)) hx hb hr (fun t ht hW => ⟨⟨(-1), (rl_st rm_F0 27 0 0), rfl, (show ((-1) : Int32).toInt = -1 by have q9 := rl_nm1; omega), ⟨by rw [ht]; exact hP, hD⟩⟩, hS.F ht⟩) hS.2.2 d_m_waive_14
set_option maxHeartbeats 4000000 in
set_option maxRecDepth 100000 in
theorem k_m_renew (l : Launch) (D : va_G) (a : Nat → Nat) (kI kZ : ClassId) (jn jt : Int32) (sz : Nat) : rl_Ci (S := Nat → Nat → Int32) l ⟨"RightsLimitModel", "renew", "(II)I"⟩ (Cond.code ⟨"RightsLimitModel", "renew", "(II)I"⟩ prog_7_method_20_code 3 (some .int) :: rl_G) { frames := 1, cells := 0, slots := 0, locals := 22 } D rl_cl (rl_tys kI kZ) [] [.ref (a 0), .int jn, .int jt] (rm_w a kI kZ rm_F0) sz (fun (r : Int32) (F' : Nat → Nat → Int32) => r.toInt = -1) (fun F' => rm_w a kI kZ F') 0 0 := by
  refine rl_meti (cc := prog_7_method_20_code) (maxL := 3) (ret := (some .int)) (by decide) rfl (Nat.le_of_ble_eq_true rfl) ?_
  intro p e s m below meth c A ls hx hb hr hml hown hts hlocks hnm hP hK hD hS hA hN hl
  have hown : s.vm.findClass "RightsLimitModel" = some m.cls := hown
  have hG : ∀ x ∈ rl_G, x.before _ s = true := fun x h => hts x (List.mem_cons_of_mem _ h)
  have hl : lv_has ls 3 [(0, .ref (a 0)), (1, .int jn), (2, .int jt)] := hl
  refine lv_aload_n hx hb d_m_renew_0 rfl (lv_at hl 0 rfl) ?_
  refine lv_iconst (v := 0) hx hb d_m_renew_1 (by decide) ?_
  refine va_put (D := D) (ci := 5) (v := .int 0) (ty := .int) (C := "RightsLimitModel") (T := fT_m) (N := 33) hx hb hG fi_m fy_m fo_m fn_m hown hK hP hD hS 0 rfl rfl 0 (by decide) (hG _ wd_483) (fun _ h9 => h9) rfl (by decide +kernel) rfl rfl (Nat.le_of_ble_eq_true rfl) d_m_renew_2 (fun H locs hP hD hS => ?_)
  have hP : va_P D rl_cl (rm_w a kI kZ (rl_st rm_F0 27 0 0)) H := hP
  have hD : va_D A (rm_w a kI kZ (rl_st rm_F0 27 0 0)) := hD
  refine lv_iload_n hx hb d_m_renew_5 rfl (lv_at hl 1 rfl) ?_
  refine lv_iconst (v := 0) hx hb d_m_renew_6 (by decide) ?_
  refine lv_aload_n hx hb d_m_renew_7 rfl (lv_at hl 0 rfl) ?_
  refine va_get (D := D) (ci := 5) (v := .int 0) (C := "RightsLimitModel") (T := fT_m) (N := 33) hx hb hG fi_m hown hK hP 0 rfl rfl 20 (by decide) (hG _ wd_503) (fun _ h9 => h9) rfl d_m_renew_8 ?_
  refine lv_iconst (v := 1) hx hb d_m_renew_11 (by decide) ?_
  refine lv_isub hx hb d_m_renew_12 ?_
  refine lv_topi (fun v1 ev1 => ?_)
  have iv1 : v1.toInt = -1 := by rw [ev1]; decide
  refine rl_callr hS (va_runS (As := [.int jn, .int 0, .int v1]) (rest := []) ⟨hx, hb, hml, hown, hG⟩ (k_m_in l D a kI kZ jn 0 v1 _) (cwS 3 hG (rl_gS wd_591 wd_592 wd_19 wd_593) rfl rfl rfl (by decide +kernel) ⟨Nat.le_of_ble_eq_true rfl, Nat.le_of_ble_eq_true rfl⟩) (rl_BR.pre rl_nw0 rl_P0 hK hN) rfl rfl hl.1 rfl (lv_room (Nat.le_of_ble_eq_true rfl)) d_m_renew_13 ⟨Nat.le_of_ble_eq_true rfl, Nat.le_of_ble_eq_true rfl⟩) (fun r locs hw hS => ?_)
  try simp only [rl_n0] at hw
  rcases hw with ⟨rfl, h2⟩ | ⟨rfl, h2⟩
  · exfalso; omega
  · refine lv_if_ne (tgt := 21) hx hb d_m_renew_16 (by decide) (fun c9 => absurd c9 (by decide)) (fun _ => ?_)
    refine lv_iconst (v := (-1)) hx hb d_m_renew_19 (by decide) ?_
    exact W.iret (v := (-1)) hx hb hr (fun t ht hW => ⟨⟨(-1), (rl_st rm_F0 27 0 0), rfl, (show ((-1) : Int32).toInt = -1 by have q9 := rl_nm1; omega), ⟨by rw [ht]; exact hP, hD⟩⟩, hS.F ht⟩) hS.2.2 d_m_renew_20
set_option maxHeartbeats 4000000 in
set_option maxRecDepth 100000 in
theorem k_m_delete (l : Launch) (D : va_G) (a : Nat → Nat) (kI kZ : ClassId) (jn jt : Int32) (sz : Nat) : rl_Ci (S := Nat → Nat → Int32) l ⟨"RightsLimitModel", "delete", "(II)I"⟩ (Cond.code ⟨"RightsLimitModel", "delete", "(II)I"⟩ prog_7_method_21_code 3 (some .int) :: rl_G) { frames := 1, cells := 0, slots := 0, locals := 22 } D rl_cl (rl_tys kI kZ) [] [.ref (a 0), .int jn, .int jt] (rm_w a kI kZ rm_F0) sz (fun (r : Int32) (F' : Nat → Nat → Int32) => r.toInt = -1) (fun F' => rm_w a kI kZ F') 0 0 := by
  refine rl_meti (cc := prog_7_method_21_code) (maxL := 3) (ret := (some .int)) (by decide) rfl (Nat.le_of_ble_eq_true rfl) ?_
  intro p e s m below meth c A ls hx hb hr hml hown hts hlocks hnm hP hK hD hS hA hN hl
  have hown : s.vm.findClass "RightsLimitModel" = some m.cls := hown
  have hG : ∀ x ∈ rl_G, x.before _ s = true := fun x h => hts x (List.mem_cons_of_mem _ h)
  have hl : lv_has ls 3 [(0, .ref (a 0)), (1, .int jn), (2, .int jt)] := hl
  refine lv_aload_n hx hb d_m_delete_0 rfl (lv_at hl 0 rfl) ?_
  refine lv_iconst (v := 0) hx hb d_m_delete_1 (by decide) ?_
  refine va_put (D := D) (ci := 5) (v := .int 0) (ty := .int) (C := "RightsLimitModel") (T := fT_m) (N := 33) hx hb hG fi_m fy_m fo_m fn_m hown hK hP hD hS 0 rfl rfl 0 (by decide) (hG _ wd_483) (fun _ h9 => h9) rfl (by decide +kernel) rfl rfl (Nat.le_of_ble_eq_true rfl) d_m_delete_2 (fun H locs hP hD hS => ?_)
  have hP : va_P D rl_cl (rm_w a kI kZ (rl_st rm_F0 27 0 0)) H := hP
  have hD : va_D A (rm_w a kI kZ (rl_st rm_F0 27 0 0)) := hD
  refine lv_iload_n hx hb d_m_delete_5 rfl (lv_at hl 1 rfl) ?_
  refine lv_iconst (v := 0) hx hb d_m_delete_6 (by decide) ?_
  refine lv_aload_n hx hb d_m_delete_7 rfl (lv_at hl 0 rfl) ?_
  refine va_get (D := D) (ci := 5) (v := .int 0) (C := "RightsLimitModel") (T := fT_m) (N := 33) hx hb hG fi_m hown hK hP 0 rfl rfl 20 (by decide) (hG _ wd_503) (fun _ h9 => h9) rfl d_m_delete_8 ?_
  refine lv_iconst (v := 1) hx hb d_m_delete_11 (by decide) ?_
  refine lv_isub hx hb d_m_delete_12 ?_
  refine lv_topi (fun v1 ev1 => ?_)
  have iv1 : v1.toInt = -1 := by rw [ev1]; decide
  refine rl_callr hS (va_runS (As := [.int jn, .int 0, .int v1]) (rest := []) ⟨hx, hb, hml, hown, hG⟩ (k_m_in l D a kI kZ jn 0 v1 _) (cwS 3 hG (rl_gS wd_591 wd_592 wd_19 wd_593) rfl rfl rfl (by decide +kernel) ⟨Nat.le_of_ble_eq_true rfl, Nat.le_of_ble_eq_true rfl⟩) (rl_BR.pre rl_nw0 rl_P0 hK hN) rfl rfl hl.1 rfl (lv_room (Nat.le_of_ble_eq_true rfl)) d_m_delete_13 ⟨Nat.le_of_ble_eq_true rfl, Nat.le_of_ble_eq_true rfl⟩) (fun r locs hw hS => ?_)
  try simp only [rl_n0] at hw
  rcases hw with ⟨rfl, h2⟩ | ⟨rfl, h2⟩
  · exfalso; omega
  · refine lv_if_ne (tgt := 21) hx hb d_m_delete_16 (by decide) (fun c9 => absurd c9 (by decide)) (fun _ => ?_)
    refine lv_iconst (v := (-1)) hx hb d_m_delete_19 (by decide) ?_
    exact W.iret (v := (-1)) hx hb hr (fun t ht hW => ⟨⟨(-1), (rl_st rm_F0 27 0 0), rfl, (show ((-1) : Int32).toInt = -1 by have q9 := rl_nm1; omega), ⟨by rw [ht]; exact hP, hD⟩⟩, hS.F ht⟩) hS.2.2 d_m_delete_20
set_option maxHeartbeats 4000000 in
set_option maxRecDepth 100000 in
theorem k_m_counted (l : Launch) (D : va_G) (a : Nat → Nat) (kI kZ : ClassId) (jt jk jd ju : Int32) (sz : Nat) : rl_Ci (S := Nat → Nat → Int32) l ⟨"RightsLimitModel", "counted", "(IIII)I"⟩ (Cond.code ⟨"RightsLimitModel", "counted", "(IIII)I"⟩ prog_7_method_22_code 5 (some .int) :: rl_G) { frames := 2, cells := 0, slots := 0, locals := 43 } D rl_cl (rl_tys kI kZ) [] [.ref (a 0), .int jt, .int jk, .int jd, .int ju] (rm_w a kI kZ rm_F0) sz (fun (r : Int32) (F' : Nat → Nat → Int32) => r.toInt = -1) (fun F' => rm_w a kI kZ F') 0 0 := by
  refine rl_meti (cc := prog_7_method_22_code) (maxL := 5) (ret := (some .int)) (by decide) rfl (Nat.le_of_ble_eq_true rfl) ?_
  intro p e s m below meth c A ls hx hb hr hml hown hts hlocks hnm hP hK hD hS hA hN hl
  have hown : s.vm.findClass "RightsLimitModel" = some m.cls := hown
  have hG : ∀ x ∈ rl_G, x.before _ s = true := fun x h => hts x (List.mem_cons_of_mem _ h)
  have hl : lv_has ls 5 [(0, .ref (a 0)), (1, .int jt), (2, .int jk), (3, .int jd), (4, .int ju)] := hl
  refine lv_aload_n hx hb d_m_counted_0 rfl (lv_at hl 0 rfl) ?_
  refine lv_iconst (v := 0) hx hb d_m_counted_1 (by decide) ?_
  refine va_put (D := D) (ci := 5) (v := .int 0) (ty := .int) (C := "RightsLimitModel") (T := fT_m) (N := 33) hx hb hG fi_m fy_m fo_m fn_m hown hK hP hD hS 0 rfl rfl 0 (by decide) (hG _ wd_483) (fun _ h9 => h9) rfl (by decide +kernel) rfl rfl (Nat.le_of_ble_eq_true rfl) d_m_counted_2 (fun H locs hP hD hS => ?_)
  have hP : va_P D rl_cl (rm_w a kI kZ (rl_st rm_F0 27 0 0)) H := hP
  have hD : va_D A (rm_w a kI kZ (rl_st rm_F0 27 0 0)) := hD
  refine lv_aload_n hx hb d_m_counted_5 rfl (lv_at hl 0 rfl) ?_
  refine lv_iload_n hx hb d_m_counted_6 rfl (lv_at hl 1 rfl) ?_
  have hpre := rl_BR.pre (av := .ref (a 0) :: [.int jt]) rl_nw0 hP hK hN
  refine rl_callr hS (va_runV (As := [.int jt]) (rest := []) ⟨hx, hb, hml, hown, hG⟩ (k_m_isTitle l D a kI kZ jt _) (cwV 1 hG (rl_gV wd_598 wd_600 wd_6 wd_19 wd_601) rfl rfl rfl (by decide +kernel) ⟨Nat.le_of_ble_eq_true rfl, Nat.le_of_ble_eq_true rfl⟩) ⟨hpre.1, (va_recv hK hP (ci := 5) (q0 := 0) rfl rfl), hpre.2⟩ rfl rfl hl.1 rfl (lv_room (Nat.le_of_ble_eq_true rfl)) d_m_counted_7 ⟨Nat.le_of_ble_eq_true rfl, Nat.le_of_ble_eq_true rfl⟩) (fun r locs hw hS => ?_)
  obtain rfl := hw
  refine lv_if_ne (tgt := 15) hx hb d_m_counted_10 (by decide) (fun c9 => absurd c9 (by decide)) (fun _ => ?_)
  refine lv_iconst (v := (-1)) hx hb d_m_counted_13 (by decide) ?_
  exact W.iret (v := (-1)) hx hb hr (fun t ht hW => ⟨⟨(-1), (rl_st rm_F0 27 0 0), rfl, (show ((-1) : Int32).toInt = -1 by have q9 := rl_nm1; omega), ⟨by rw [ht]; exact hP, hD⟩⟩, hS.F ht⟩) hS.2.2 d_m_counted_14
set_option maxHeartbeats 4000000 in
set_option maxRecDepth 100000 in
theorem k_m_left (l : Launch) (D : va_G) (a : Nat → Nat) (kI kZ : ClassId) (jn : Int32) (sz : Nat) : rl_Ci (S := Nat → Nat → Int32) l ⟨"RightsLimitModel", "left", "(I)I"⟩ (Cond.code ⟨"RightsLimitModel", "left", "(I)I"⟩ prog_7_method_25_code 2 (some .int) :: rl_G) { frames := 1, cells := 0, slots := 0, locals := 22 } D rl_cl (rl_tys kI kZ) [] [.ref (a 0), .int jn] (rm_w a kI kZ rm_F0) sz (fun (r : Int32) (F' : Nat → Nat → Int32) => r.toInt = -1) (fun F' => rm_w a kI kZ F') 0 0 := by
  refine rl_meti (cc := prog_7_method_25_code) (maxL := 2) (ret := (some .int)) (by decide) rfl (Nat.le_of_ble_eq_true rfl) ?_
  intro p e s m below meth c A ls hx hb hr hml hown hts hlocks hnm hP hK hD hS hA hN hl
  have hown : s.vm.findClass "RightsLimitModel" = some m.cls := hown
  have hG : ∀ x ∈ rl_G, x.before _ s = true := fun x h => hts x (List.mem_cons_of_mem _ h)
  have hl : lv_has ls 2 [(0, .ref (a 0)), (1, .int jn)] := hl
  refine lv_aload_n hx hb d_m_left_0 rfl (lv_at hl 0 rfl) ?_
  refine lv_iconst (v := 0) hx hb d_m_left_1 (by decide) ?_
  refine va_put (D := D) (ci := 5) (v := .int 0) (ty := .int) (C := "RightsLimitModel") (T := fT_m) (N := 33) hx hb hG fi_m fy_m fo_m fn_m hown hK hP hD hS 0 rfl rfl 0 (by decide) (hG _ wd_483) (fun _ h9 => h9) rfl (by decide +kernel) rfl rfl (Nat.le_of_ble_eq_true rfl) d_m_left_2 (fun H locs hP hD hS => ?_)
  have hP : va_P D rl_cl (rm_w a kI kZ (rl_st rm_F0 27 0 0)) H := hP
  have hD : va_D A (rm_w a kI kZ (rl_st rm_F0 27 0 0)) := hD
  refine lv_iload_n hx hb d_m_left_5 rfl (lv_at hl 1 rfl) ?_
  refine lv_iconst (v := 0) hx hb d_m_left_6 (by decide) ?_
  refine lv_aload_n hx hb d_m_left_7 rfl (lv_at hl 0 rfl) ?_
  refine va_get (D := D) (ci := 5) (v := .int 0) (C := "RightsLimitModel") (T := fT_m) (N := 33) hx hb hG fi_m hown hK hP 0 rfl rfl 14 (by decide) (hG _ wd_497) (fun _ h9 => h9) rfl d_m_left_8 ?_
  refine lv_iconst (v := 1) hx hb d_m_left_11 (by decide) ?_
  refine lv_isub hx hb d_m_left_12 ?_
  refine lv_topi (fun v1 ev1 => ?_)
  have iv1 : v1.toInt = -1 := by rw [ev1]; decide
  refine rl_callr hS (va_runS (As := [.int jn, .int 0, .int v1]) (rest := []) ⟨hx, hb, hml, hown, hG⟩ (k_m_in l D a kI kZ jn 0 v1 _) (cwS 3 hG (rl_gS wd_591 wd_592 wd_19 wd_593) rfl rfl rfl (by decide +kernel) ⟨Nat.le_of_ble_eq_true rfl, Nat.le_of_ble_eq_true rfl⟩) (rl_BR.pre rl_nw0 rl_P0 hK hN) rfl rfl hl.1 rfl (lv_room (Nat.le_of_ble_eq_true rfl)) d_m_left_13 ⟨Nat.le_of_ble_eq_true rfl, Nat.le_of_ble_eq_true rfl⟩) (fun r locs hw hS => ?_)
  try simp only [rl_n0] at hw
  rcases hw with ⟨rfl, h2⟩ | ⟨rfl, h2⟩
  · exfalso; omega
  · refine lv_if_eq (tgt := 28) hx hb d_m_left_16 (by decide) (fun _ => ?_) (fun c9 => absurd c9 (by decide))
    refine lv_iconst (v := (-1)) hx hb d_m_left_28 (by decide) ?_
    exact W.iret (v := (-1)) hx hb hr (fun t ht hW => ⟨⟨(-1), (rl_st rm_F0 27 0 0), rfl, (show ((-1) : Int32).toInt = -1 by have q9 := rl_nm1; omega), ⟨by rw [ht]; exact hP, hD⟩⟩, hS.F ht⟩) hS.2.2 d_m_left_29
set_option maxHeartbeats 4000000 in
set_option maxRecDepth 100000 in
theorem k_m_statistics (l : Launch) (D : va_G) (a : Nat → Nat) (kI kZ : ClassId) (jn jw : Int32) (sz : Nat) : rl_Ci (S := Nat → Nat → Int32) l ⟨"RightsLimitModel", "statistics", "(II)I"⟩ (Cond.code ⟨"RightsLimitModel", "statistics", "(II)I"⟩ prog_7_method_26_code 5 (some .int) :: rl_G) { frames := 1, cells := 0, slots := 0, locals := 22 } D rl_cl (rl_tys kI kZ) [] [.ref (a 0), .int jn, .int jw] (rm_w a kI kZ rm_F0) sz (fun (r : Int32) (F' : Nat → Nat → Int32) => (((0 ≤ jn.toInt ∧ jn.toInt ≤ 99) ∧ (0 ≤ jw.toInt ∧ jw.toInt ≤ 3)) ∧ r.toInt = 0) ∨ (¬ ((0 ≤ jn.toInt ∧ jn.toInt ≤ 99) ∧ (0 ≤ jw.toInt ∧ jw.toInt ≤ 3)) ∧ r.toInt = -1)) (fun F' => rm_w a kI kZ F') 0 0 := by
  refine rl_meti (cc := prog_7_method_26_code) (maxL := 5) (ret := (some .int)) (by decide) rfl (Nat.le_of_ble_eq_true rfl) ?_
  intro p e s m below meth c A ls hx hb hr hml hown hts hlocks hnm hP hK hD hS hA hN hl
  have hown : s.vm.findClass "RightsLimitModel" = some m.cls := hown
  have hG : ∀ x ∈ rl_G, x.before _ s = true := fun x h => hts x (List.mem_cons_of_mem _ h)
  have hl : lv_has ls 5 [(0, .ref (a 0)), (1, .int jn), (2, .int jw)] := hl
  refine lv_aload_n hx hb d_m_statistics_0 rfl (lv_at hl 0 rfl) ?_
  refine lv_iconst (v := 0) hx hb d_m_statistics_1 (by decide) ?_
  refine va_put (D := D) (ci := 5) (v := .int 0) (ty := .int) (C := "RightsLimitModel") (T := fT_m) (N := 33) hx hb hG fi_m fy_m fo_m fn_m hown hK hP hD hS 0 rfl rfl 0 (by decide) (hG _ wd_483) (fun _ h9 => h9) rfl (by decide +kernel) rfl rfl (Nat.le_of_ble_eq_true rfl) d_m_statistics_2 (fun H locs hP hD hS => ?_)
  have hP : va_P D rl_cl (rm_w a kI kZ (rl_st rm_F0 27 0 0)) H := hP
  have hD : va_D A (rm_w a kI kZ (rl_st rm_F0 27 0 0)) := hD
  refine lv_iload_n hx hb d_m_statistics_5 rfl (lv_at hl 1 rfl) ?_
  refine lv_iconst (v := 0) hx hb d_m_statistics_6 (by decide) ?_
  refine lv_bipush (v := 99) hx hb d_m_statistics_7 (by decide) ?_
  refine rl_callr hS (va_runS (As := [.int jn, .int 0, .int 99]) (rest := []) ⟨hx, hb, hml, hown, hG⟩ (k_m_in l D a kI kZ jn 0 99 _) (cwS 3 hG (rl_gS wd_591 wd_592 wd_19 wd_593) rfl rfl rfl (by decide +kernel) ⟨Nat.le_of_ble_eq_true rfl, Nat.le_of_ble_eq_true rfl⟩) (rl_BR.pre rl_nw0 rl_P0 hK hN) rfl rfl hl.1 rfl (lv_room (Nat.le_of_ble_eq_true rfl)) d_m_statistics_9 ⟨Nat.le_of_ble_eq_true rfl, Nat.le_of_ble_eq_true rfl⟩) (fun r locs hw hS => ?_)
  try simp only [rl_n0, rl_n99] at hw
  rcases hw with ⟨rfl, h1⟩ | ⟨rfl, h1⟩
  · refine lv_if_eq (tgt := 24) hx hb d_m_statistics_12 (by decide) (fun c9 => absurd c9 (by decide)) (fun _ => ?_)
    refine lv_iload_n hx hb d_m_statistics_15 rfl (lv_at hl 2 rfl) ?_
    refine lv_iconst (v := 0) hx hb d_m_statistics_16 (by decide) ?_
    refine lv_iconst (v := 3) hx hb d_m_statistics_17 (by decide) ?_
    refine rl_callr hS (va_runS (As := [.int jw, .int 0, .int 3]) (rest := []) ⟨hx, hb, hml, hown, hG⟩ (k_m_in l D a kI kZ jw 0 3 _) (cwS 3 hG (rl_gS wd_591 wd_592 wd_19 wd_593) rfl rfl rfl (by decide +kernel) ⟨Nat.le_of_ble_eq_true rfl, Nat.le_of_ble_eq_true rfl⟩) (rl_BR.pre rl_nw0 rl_P0 hK hN) rfl rfl hl.1 rfl (lv_room (Nat.le_of_ble_eq_true rfl)) d_m_statistics_18 ⟨Nat.le_of_ble_eq_true rfl, Nat.le_of_ble_eq_true rfl⟩) (fun r locs hw hS => ?_)
    try simp only [rl_n0, rl_n3] at hw
    rcases hw with ⟨rfl, h2⟩ | ⟨rfl, h2⟩
    · refine lv_if_ne (tgt := 26) hx hb d_m_statistics_21 (by decide) (fun _ => ?_) (fun c9 => absurd c9 (by decide))
      refine lv_iconst (v := 0) hx hb d_m_statistics_26 (by decide) ?_
      refine lv_istore_n (lv' := [(3, .int 0), (0, .ref (a 0)), (1, .int jn), (2, .int jw)]) hx hb d_m_statistics_27 rfl hl (by decide) rfl (fun ls hl => ?_)
      refine lv_iconst (v := 0) hx hb d_m_statistics_28 (by decide) ?_
      refine lv_istore (lv' := [(4, .int 0), (3, .int 0), (0, .ref (a 0)), (1, .int jn), (2, .int jw)]) hx hb d_m_statistics_29 hl (by decide) rfl (fun ls hl => ?_)
      refine lv_iload hx hb d_m_statistics_31 (lv_at hl 0 rfl) ?_
      refine lv_aload_n hx hb d_m_statistics_33 rfl (lv_at hl 2 rfl) ?_
      refine va_get (D := D) (ci := 5) (v := .int 0) (C := "RightsLimitModel") (T := fT_m) (N := 33) hx hb hG fi_m hown hK hP 0 rfl rfl 20 (by decide) (hG _ wd_503) (fun _ h9 => h9) rfl d_m_statistics_34 ?_
      refine lv_icmp_ge (tgt := 129) hx hb d_m_statistics_37 (by decide) (fun _ => ?_) (fun c9 => absurd c9 (by decide))
      refine lv_iload_n hx hb d_m_statistics_129 rfl (lv_at hl 1 rfl) ?_
      exact W.iret (v := 0) hx hb hr (fun t ht hW => ⟨⟨0, (rl_st rm_F0 27 0 0), rfl, (show (((0 ≤ jn.toInt ∧ jn.toInt ≤ 99) ∧ (0 ≤ jw.toInt ∧ jw.toInt ≤ 3)) ∧ (0 : Int32).toInt = 0) ∨ (¬ ((0 ≤ jn.toInt ∧ jn.toInt ≤ 99) ∧ (0 ≤ jw.toInt ∧ jw.toInt ≤ 3)) ∧ (0 : Int32).toInt = -1) by have q9 := rl_n0; omega), ⟨by rw [ht]; exact hP, hD⟩⟩, hS.F ht⟩) hS.2.2 d_m_statistics_130
    · refine lv_if_ne (tgt := 26) hx hb d_m_statistics_21 (by decide) (fun c9 => absurd c9 (by decide)) (fun _ => ?_)
      refine lv_iconst (v := (-1)) hx hb d_m_statistics_24 (by decide) ?_
      exact W.iret (v := (-1)) hx hb hr (fun t ht hW => ⟨⟨(-1), (rl_st rm_F0 27 0 0), rfl, (show (((0 ≤ jn.toInt ∧ jn.toInt ≤ 99) ∧ (0 ≤ jw.toInt ∧ jw.toInt ≤ 3)) ∧ ((-1) : Int32).toInt = 0) ∨ (¬ ((0 ≤ jn.toInt ∧ jn.toInt ≤ 99) ∧ (0 ≤ jw.toInt ∧ jw.toInt ≤ 3)) ∧ ((-1) : Int32).toInt = -1) by have q9 := rl_nm1; omega), ⟨by rw [ht]; exact hP, hD⟩⟩, hS.F ht⟩) hS.2.2 d_m_statistics_25
  · refine lv_if_eq (tgt := 24) hx hb d_m_statistics_12 (by decide) (fun _ => ?_) (fun c9 => absurd c9 (by decide))
    refine lv_iconst (v := (-1)) hx hb d_m_statistics_24 (by decide) ?_
    exact W.iret (v := (-1)) hx hb hr (fun t ht hW => ⟨⟨(-1), (rl_st rm_F0 27 0 0), rfl, (show (((0 ≤ jn.toInt ∧ jn.toInt ≤ 99) ∧ (0 ≤ jw.toInt ∧ jw.toInt ≤ 3)) ∧ ((-1) : Int32).toInt = 0) ∨ (¬ ((0 ≤ jn.toInt ∧ jn.toInt ≤ 99) ∧ (0 ≤ jw.toInt ∧ jw.toInt ≤ 3)) ∧ ((-1) : Int32).toInt = -1) by have q9 := rl_nm1; omega), ⟨by rw [ht]; exact hP, hD⟩⟩, hS.F ht⟩) hS.2.2 d_m_statistics_25
set_option maxHeartbeats 4000000 in
set_option maxRecDepth 100000 in
theorem k_m_request (l : Launch) (D : va_G) (a : Nat → Nat) (kI kZ : ClassId) (jn jw : Int32) (sz : Nat) : rl_Ci (S := Nat → Nat → Int32) l ⟨"RightsLimitModel", "request", "(II)I"⟩ (Cond.code ⟨"RightsLimitModel", "request", "(II)I"⟩ prog_7_method_24_code 3 (some .int) :: rl_G) { frames := 1, cells := 0, slots := 0, locals := 22 } D rl_cl (rl_tys kI kZ) [] [.ref (a 0), .int jn, .int jw] (rm_w a kI kZ rm_F0) sz (fun (r : Int32) (F' : Nat → Nat → Int32) => r.toInt = 0 ∧ F' 27 0 = 1) (fun F' => rm_w a kI kZ F') 0 0 := by
  refine rl_meti (cc := prog_7_method_24_code) (maxL := 3) (ret := (some .int)) (by decide) rfl (Nat.le_of_ble_eq_true rfl) ?_
  intro p e s m below meth c A ls hx hb hr hml hown hts hlocks hnm hP hK hD hS hA hN hl
  have hown : s.vm.findClass "RightsLimitModel" = some m.cls := hown
  have hG : ∀ x ∈ rl_G, x.before _ s = true := fun x h => hts x (List.mem_cons_of_mem _ h)
  have hl : lv_has ls 3 [(0, .ref (a 0)), (1, .int jn), (2, .int jw)] := hl
  refine lv_aload_n hx hb d_m_request_0 rfl (lv_at hl 0 rfl) ?_
  refine lv_iload_n hx hb d_m_request_1 rfl (lv_at hl 1 rfl) ?_
  refine lv_iconst (v := 0) hx hb d_m_request_2 (by decide) ?_
  refine lv_aload_n hx hb d_m_request_3 rfl (lv_at hl 0 rfl) ?_
  refine va_get (D := D) (ci := 5) (v := .int 0) (C := "RightsLimitModel") (T := fT_m) (N := 33) hx hb hG fi_m hown hK hP 0 rfl rfl 20 (by decide) (hG _ wd_503) (fun _ h9 => h9) rfl d_m_request_4 ?_
  refine lv_iconst (v := 1) hx hb d_m_request_7 (by decide) ?_
  refine lv_isub hx hb d_m_request_8 ?_
  refine lv_topi (fun v1 ev1 => ?_)
  have iv1 : v1.toInt = -1 := by rw [ev1]; decide
  refine rl_callr hS (va_runS (As := [.int jn, .int 0, .int v1]) (rest := [.ref (a 0)]) ⟨hx, hb, hml, hown, hG⟩ (k_m_in l D a kI kZ jn 0 v1 _) (cwS 3 hG (rl_gS wd_591 wd_592 wd_19 wd_593) rfl rfl rfl (by decide +kernel) ⟨Nat.le_of_ble_eq_true rfl, Nat.le_of_ble_eq_true rfl⟩) (rl_BR.pre rl_nw0 rl_P0 hK hN) rfl rfl hl.1 rfl (lv_room (Nat.le_of_ble_eq_true rfl)) d_m_request_9 ⟨Nat.le_of_ble_eq_true rfl, Nat.le_of_ble_eq_true rfl⟩) (fun r locs hw hS => ?_)
  try simp only [rl_n0] at hw
  rcases hw with ⟨rfl, h2⟩ | ⟨rfl, h2⟩
  · exfalso; omega
  · refine lv_if_eq (tgt := 25) hx hb d_m_request_12 (by decide) (fun _ => ?_) (fun c9 => absurd c9 (by decide))
    refine lv_iconst (v := 1) hx hb d_m_request_25 (by decide) ?_
    refine lv_goto (tgt := 30) hx hb d_m_request_26 (by decide) ?_
    refine va_put (D := D) (ci := 5) (v := .int 1) (ty := .int) (C := "RightsLimitModel") (T := fT_m) (N := 33) hx hb hG fi_m fy_m fo_m fn_m hown hK hP hD hS 0 rfl rfl 0 (by decide) (hG _ wd_483) (fun _ h9 => h9) rfl (by decide +kernel) rfl rfl (Nat.le_of_ble_eq_true rfl) d_m_request_30 (fun H locs hP hD hS => ?_)
    have hP : va_P D rl_cl (rm_w a kI kZ (rl_st rm_F0 27 0 1)) H := hP
    have hD : va_D A (rm_w a kI kZ (rl_st rm_F0 27 0 1)) := hD
    refine lv_aload_n hx hb d_m_request_33 rfl (lv_at hl 0 rfl) ?_
    refine va_get (D := D) (ci := 5) (v := .int 1) (C := "RightsLimitModel") (T := fT_m) (N := 33) hx hb hG fi_m hown hK hP 0 rfl rfl 0 (by decide) (hG _ wd_483) (fun _ h9 => h9) rfl d_m_request_34 ?_
    refine lv_if_le (tgt := 42) hx hb d_m_request_37 (by decide) (fun c9 => absurd c9 (by decide)) (fun _ => ?_)
    refine lv_iconst (v := 0) hx hb d_m_request_40 (by decide) ?_
    exact W.iret (v := 0) hx hb hr (fun t ht hW => ⟨⟨0, (rl_st rm_F0 27 0 1), rfl, ⟨(show (0 : Int32).toInt = 0 by have q9 := rl_n0; omega), rfl⟩, ⟨by rw [ht]; exact hP, hD⟩⟩, hS.F ht⟩) hS.2.2 d_m_request_41
set_option maxHeartbeats 4000000 in
set_option maxRecDepth 100000 in
theorem k_m_past (l : Launch) (D : va_G) (a : Nat → Nat) (kI kZ : ClassId) (jt jn : Int32) (sz : Nat) : rl_Ci (S := Nat → Nat → Int32) l ⟨"RightsLimitModel", "past", "(II)I"⟩ (Cond.code ⟨"RightsLimitModel", "past", "(II)I"⟩ prog_7_method_27_code 5 (some .int) :: rl_G) { frames := 0, cells := 0, slots := 0, locals := 0 } D rl_cl (rl_tys kI kZ) [] [.ref (a 0), .int jt, .int jn] (rm_w a kI kZ rm_F0) sz (fun (r : Int32) (F' : Nat → Nat → Int32) => r.toInt = 0 ∧ F' 27 0 = 1) (fun F' => rm_w a kI kZ F') 0 0 := by
  refine rl_meti (cc := prog_7_method_27_code) (maxL := 5) (ret := (some .int)) (by decide) rfl (Nat.le_of_ble_eq_true rfl) ?_
  intro p e s m below meth c A ls hx hb hr hml hown hts hlocks hnm hP hK hD hS hA hN hl
  have hown : s.vm.findClass "RightsLimitModel" = some m.cls := hown
  have hG : ∀ x ∈ rl_G, x.before _ s = true := fun x h => hts x (List.mem_cons_of_mem _ h)
  have hl : lv_has ls 5 [(0, .ref (a 0)), (1, .int jt), (2, .int jn)] := hl
  refine lv_iload_n hx hb d_m_past_0 rfl (lv_at hl 2 rfl) ?_
  refine lv_istore_n (lv' := [(3, .int jn), (0, .ref (a 0)), (1, .int jt), (2, .int jn)]) hx hb d_m_past_1 rfl hl (by decide) rfl (fun ls hl => ?_)
  refine lv_iconst (v := 0) hx hb d_m_past_2 (by decide) ?_
  refine lv_istore (lv' := [(4, .int 0), (3, .int jn), (0, .ref (a 0)), (1, .int jt), (2, .int jn)]) hx hb d_m_past_3 hl (by decide) rfl (fun ls hl => ?_)
  refine lv_iload hx hb d_m_past_5 (lv_at hl 0 rfl) ?_
  refine lv_aload_n hx hb d_m_past_7 rfl (lv_at hl 2 rfl) ?_
  refine va_get (D := D) (ci := 5) (v := .int 0) (C := "RightsLimitModel") (T := fT_m) (N := 33) hx hb hG fi_m hown hK hP 0 rfl rfl 20 (by decide) (hG _ wd_503) (fun _ h9 => h9) rfl d_m_past_8 ?_
  refine lv_icmp_ge (tgt := 69) hx hb d_m_past_11 (by decide) (fun _ => ?_) (fun c9 => absurd c9 (by decide))
  refine lv_aload_n hx hb d_m_past_69 rfl (lv_at hl 2 rfl) ?_
  refine lv_iconst (v := 1) hx hb d_m_past_70 (by decide) ?_
  refine va_put (D := D) (ci := 5) (v := .int 1) (ty := .int) (C := "RightsLimitModel") (T := fT_m) (N := 33) hx hb hG fi_m fy_m fo_m fn_m hown hK hP hD hS 0 rfl rfl 0 (by decide) (hG _ wd_483) (fun _ h9 => h9) rfl (by decide +kernel) rfl rfl (Nat.le_of_ble_eq_true rfl) d_m_past_71 (fun H locs hP hD hS => ?_)
  have hP : va_P D rl_cl (rm_w a kI kZ (rl_st rm_F0 27 0 1)) H := hP
  have hD : va_D A (rm_w a kI kZ (rl_st rm_F0 27 0 1)) := hD
  refine lv_iconst (v := 0) hx hb d_m_past_74 (by decide) ?_
  exact W.iret (v := 0) hx hb hr (fun t ht hW => ⟨⟨0, (rl_st rm_F0 27 0 1), rfl, ⟨(show (0 : Int32).toInt = 0 by have q9 := rl_n0; omega), rfl⟩, ⟨by rw [ht]; exact hP, hD⟩⟩, hS.F ht⟩) hS.2.2 d_m_past_75
end
section
set_option maxHeartbeats 4000000 in
set_option maxRecDepth 100000 in
theorem k_t_init (l : Launch) (D : va_G) (h : Nat) (kI kZ : ClassId) (sz : Nat) : rl_Cv (S := Nat → Nat) l ⟨"RightsLimit$Titles", "<init>", "()V"⟩ (Cond.code ⟨"RightsLimit$Titles", "<init>", "()V"⟩ prog_5_method_1_code 1 none :: rl_G) { frames := 1, cells := 4, slots := 200, locals := 12 } D rl_cl (rl_tys kI kZ) [] [.ref h] [(h, .inr (1, [.null, .null, .null, .null, .int 0]))] sz (fun _ : Nat → Nat => True) (fun b => [(h, .inr (1, [.ref (b 0), .ref (b 1), .ref (b 2), .ref (b 3), .int 0])), (b 0, .inl (kI, 50, .inl (fun _ => 0))), (b 1, .inl (kZ, 50, .inl (fun _ => 0))), (b 2, .inl (kI, 50, .inl (fun _ => 0))), (b 3, .inl (kI, 50, .inl (fun _ => 0)))]) 4 200 := by
  refine rl_metv (cc := prog_5_method_1_code) (maxL := 1) (ret := none) (by decide) rfl (Nat.le_of_ble_eq_true rfl) ?_
  intro p e s m below meth c A ls hx hb hr hml hown hts hlocks hnm hP hK hD hS hA hN hl
  have hown : s.vm.findClass "RightsLimit$Titles" = some m.cls := hown
  have hG : ∀ x ∈ rl_G, x.before _ s = true := fun x h => hts x (List.mem_cons_of_mem _ h)
  have hl : lv_has ls 1 [(0, .ref h)] := hl
  have hP : va_P D rl_cl [(h, .inr (1, [.null, .null, .null, .null, .int 0]))] s.heap := hP
  have hD : va_D A [(h, .inr (1, [.null, .null, .null, .null, .int 0]))] := hD
  refine lv_aload_n hx hb d_t_init_0 rfl (lv_at hl 0 rfl) ?_
  refine W.objInit hx hb hown (hG _ wd_37) (hG _ wd_30) (hG _ wd_31) rfl (by rw [hml]; exact hl.1) rfl d_t_init_1 (Nat.le_of_ble_eq_true rfl) (Nat.le_of_ble_eq_true rfl) ?_
  refine W.eq (g2 := F0 m 4 ls []) rfl ?_
  refine lv_aload_n hx hb d_t_init_4 rfl (lv_at hl 0 rfl) ?_
  refine lv_bipush (v := 50) hx hb d_t_init_5 (by decide) ?_
  refine rl_newa (atype := .int) (ty := .int) (N' := 50) (a0 := (50, .inl (fun _ => 0))) hx hb (hG _ wd_58) rfl (fun _ h9 => by cases h9) 0 rfl hK hP hD hS hA (fun _ => rfl) (by decide) (by decide) (by decide) (Nat.le_of_ble_eq_true rfl) (Nat.le_of_ble_eq_true rfl) d_t_init_7 (fun q0 H hP hD hS => ?_)
  have hP : va_P D rl_cl [(h, .inr (1, [.null, .null, .null, .null, .int 0])), (q0, .inl (kI, 50, .inl (fun _ => 0)))] H := hP
  have hD : va_D A [(h, .inr (1, [.null, .null, .null, .null, .int 0])), (q0, .inl (kI, 50, .inl (fun _ => 0)))] := hD
  refine va_putF (D := D) (ci := 1) (v := .ref q0) (ty := fy_t 0) (C := "RightsLimit$Titles") (T := fT_t) (N := 5) hx hb hG fi_t fy_t fo_t fn_t hown hK hP hD hS 0 rfl rfl 0 (by decide) (hG _ wd_38) (fun _ h9 => h9) rfl hnm rfl (fo_t 0 (by decide)) rfl rfl (Nat.le_of_ble_eq_true rfl) d_t_init_9 (fun H locs hP hD hS => ?_)
  have hP : va_P D rl_cl [(h, .inr (1, [.ref q0, .null, .null, .null, .int 0])), (q0, .inl (kI, 50, .inl (fun _ => 0)))] H := hP
  have hD : va_D A [(h, .inr (1, [.ref q0, .null, .null, .null, .int 0])), (q0, .inl (kI, 50, .inl (fun _ => 0)))] := hD
  refine lv_aload_n hx hb d_t_init_12 rfl (lv_at hl 0 rfl) ?_
  refine lv_bipush (v := 50) hx hb d_t_init_13 (by decide) ?_
  refine rl_newa (atype := .boolean) (ty := .boolean) (N' := 50) (a0 := (50, .inl (fun _ => 0))) hx hb (hG _ wd_59) rfl (fun _ h9 => by cases h9) 1 rfl hK hP hD hS hA (fun _ => rfl) (by decide) (by decide) (by decide) (Nat.le_of_ble_eq_true rfl) (Nat.le_of_ble_eq_true rfl) d_t_init_15 (fun q1 H hP hD hS => ?_)
  have hP : va_P D rl_cl [(h, .inr (1, [.ref q0, .null, .null, .null, .int 0])), (q0, .inl (kI, 50, .inl (fun _ => 0))), (q1, .inl (kZ, 50, .inl (fun _ => 0)))] H := hP
  have hD : va_D A [(h, .inr (1, [.ref q0, .null, .null, .null, .int 0])), (q0, .inl (kI, 50, .inl (fun _ => 0))), (q1, .inl (kZ, 50, .inl (fun _ => 0)))] := hD
  refine va_putF (D := D) (ci := 1) (v := .ref q1) (ty := fy_t 1) (C := "RightsLimit$Titles") (T := fT_t) (N := 5) hx hb hG fi_t fy_t fo_t fn_t hown hK hP hD hS 0 rfl rfl 1 (by decide) (hG _ wd_40) (fun _ h9 => h9) rfl hnm rfl (fo_t 1 (by decide)) rfl rfl (Nat.le_of_ble_eq_true rfl) d_t_init_17 (fun H locs hP hD hS => ?_)
  have hP : va_P D rl_cl [(h, .inr (1, [.ref q0, .ref q1, .null, .null, .int 0])), (q0, .inl (kI, 50, .inl (fun _ => 0))), (q1, .inl (kZ, 50, .inl (fun _ => 0)))] H := hP
  have hD : va_D A [(h, .inr (1, [.ref q0, .ref q1, .null, .null, .int 0])), (q0, .inl (kI, 50, .inl (fun _ => 0))), (q1, .inl (kZ, 50, .inl (fun _ => 0)))] := hD
  refine lv_aload_n hx hb d_t_init_20 rfl (lv_at hl 0 rfl) ?_
  refine lv_bipush (v := 50) hx hb d_t_init_21 (by decide) ?_
  refine rl_newa (atype := .int) (ty := .int) (N' := 50) (a0 := (50, .inl (fun _ => 0))) hx hb (hG _ wd_58) rfl (fun _ h9 => by cases h9) 0 rfl hK hP hD hS hA (fun _ => rfl) (by decide) (by decide) (by decide) (Nat.le_of_ble_eq_true rfl) (Nat.le_of_ble_eq_true rfl) d_t_init_23 (fun q2 H hP hD hS => ?_)
  have hP : va_P D rl_cl [(h, .inr (1, [.ref q0, .ref q1, .null, .null, .int 0])), (q0, .inl (kI, 50, .inl (fun _ => 0))), (q1, .inl (kZ, 50, .inl (fun _ => 0))), (q2, .inl (kI, 50, .inl (fun _ => 0)))] H := hP
  have hD : va_D A [(h, .inr (1, [.ref q0, .ref q1, .null, .null, .int 0])), (q0, .inl (kI, 50, .inl (fun _ => 0))), (q1, .inl (kZ, 50, .inl (fun _ => 0))), (q2, .inl (kI, 50, .inl (fun _ => 0)))] := hD
  refine va_putF (D := D) (ci := 1) (v := .ref q2) (ty := fy_t 2) (C := "RightsLimit$Titles") (T := fT_t) (N := 5) hx hb hG fi_t fy_t fo_t fn_t hown hK hP hD hS 0 rfl rfl 2 (by decide) (hG _ wd_42) (fun _ h9 => h9) rfl hnm rfl (fo_t 2 (by decide)) rfl rfl (Nat.le_of_ble_eq_true rfl) d_t_init_25 (fun H locs hP hD hS => ?_)
  have hP : va_P D rl_cl [(h, .inr (1, [.ref q0, .ref q1, .ref q2, .null, .int 0])), (q0, .inl (kI, 50, .inl (fun _ => 0))), (q1, .inl (kZ, 50, .inl (fun _ => 0))), (q2, .inl (kI, 50, .inl (fun _ => 0)))] H := hP
  have hD : va_D A [(h, .inr (1, [.ref q0, .ref q1, .ref q2, .null, .int 0])), (q0, .inl (kI, 50, .inl (fun _ => 0))), (q1, .inl (kZ, 50, .inl (fun _ => 0))), (q2, .inl (kI, 50, .inl (fun _ => 0)))] := hD
  refine lv_aload_n hx hb d_t_init_28 rfl (lv_at hl 0 rfl) ?_
  refine lv_bipush (v := 50) hx hb d_t_init_29 (by decide) ?_
  refine rl_newa (atype := .int) (ty := .int) (N' := 50) (a0 := (50, .inl (fun _ => 0))) hx hb (hG _ wd_58) rfl (fun _ h9 => by cases h9) 0 rfl hK hP hD hS hA (fun _ => rfl) (by decide) (by decide) (by decide) (Nat.le_of_ble_eq_true rfl) (Nat.le_of_ble_eq_true rfl) d_t_init_31 (fun q3 H hP hD hS => ?_)
  have hP : va_P D rl_cl [(h, .inr (1, [.ref q0, .ref q1, .ref q2, .null, .int 0])), (q0, .inl (kI, 50, .inl (fun _ => 0))), (q1, .inl (kZ, 50, .inl (fun _ => 0))), (q2, .inl (kI, 50, .inl (fun _ => 0))), (q3, .inl (kI, 50, .inl (fun _ => 0)))] H := hP
  have hD : va_D A [(h, .inr (1, [.ref q0, .ref q1, .ref q2, .null, .int 0])), (q0, .inl (kI, 50, .inl (fun _ => 0))), (q1, .inl (kZ, 50, .inl (fun _ => 0))), (q2, .inl (kI, 50, .inl (fun _ => 0))), (q3, .inl (kI, 50, .inl (fun _ => 0)))] := hD
  refine va_putF (D := D) (ci := 1) (v := .ref q3) (ty := fy_t 3) (C := "RightsLimit$Titles") (T := fT_t) (N := 5) hx hb hG fi_t fy_t fo_t fn_t hown hK hP hD hS 0 rfl rfl 3 (by decide) (hG _ wd_44) (fun _ h9 => h9) rfl hnm rfl (fo_t 3 (by decide)) rfl rfl (Nat.le_of_ble_eq_true rfl) d_t_init_33 (fun H locs hP hD hS => ?_)
  have hP : va_P D rl_cl [(h, .inr (1, [.ref q0, .ref q1, .ref q2, .ref q3, .int 0])), (q0, .inl (kI, 50, .inl (fun _ => 0))), (q1, .inl (kZ, 50, .inl (fun _ => 0))), (q2, .inl (kI, 50, .inl (fun _ => 0))), (q3, .inl (kI, 50, .inl (fun _ => 0)))] H := hP
  have hD : va_D A [(h, .inr (1, [.ref q0, .ref q1, .ref q2, .ref q3, .int 0])), (q0, .inl (kI, 50, .inl (fun _ => 0))), (q1, .inl (kZ, 50, .inl (fun _ => 0))), (q2, .inl (kI, 50, .inl (fun _ => 0))), (q3, .inl (kI, 50, .inl (fun _ => 0)))] := hD
  refine lv_aload_n hx hb d_t_init_36 rfl (lv_at hl 0 rfl) ?_
  refine lv_iconst (v := 0) hx hb d_t_init_37 (by decide) ?_
  refine va_put (D := D) (ci := 1) (v := .int 0) (ty := fy_t 4) (C := "RightsLimit$Titles") (T := fT_t) (N := 5) hx hb hG fi_t fy_t fo_t fn_t hown hK hP hD hS 0 rfl rfl 4 (by decide) (hG _ wd_46) (fun _ h9 => h9) rfl (fo_t 4 (by decide)) rfl rfl (Nat.le_of_ble_eq_true rfl) d_t_init_38 (fun H locs hP hD hS => ?_)
  have hP : va_P D rl_cl [(h, .inr (1, [.ref q0, .ref q1, .ref q2, .ref q3, .int 0])), (q0, .inl (kI, 50, .inl (fun _ => 0))), (q1, .inl (kZ, 50, .inl (fun _ => 0))), (q2, .inl (kI, 50, .inl (fun _ => 0))), (q3, .inl (kI, 50, .inl (fun _ => 0)))] H := hP
  have hD : va_D A [(h, .inr (1, [.ref q0, .ref q1, .ref q2, .ref q3, .int 0])), (q0, .inl (kI, 50, .inl (fun _ => 0))), (q1, .inl (kZ, 50, .inl (fun _ => 0))), (q2, .inl (kI, 50, .inl (fun _ => 0))), (q3, .inl (kI, 50, .inl (fun _ => 0)))] := hD
  exact W.vret hx hb hr (fun t ht hW => ⟨⟨(fun k => match k with | 0 => q0 | 1 => q1 | 2 => q2 | 3 => q3 | _ => 0), rfl, trivial, ⟨by rw [ht]; exact hP, hD⟩⟩, hS.F ht⟩) hS.2.2 d_t_init_41
set_option maxHeartbeats 4000000 in
set_option maxRecDepth 100000 in
theorem k_l_init (l : Launch) (D : va_G) (h : Nat) (kI kZ : ClassId) (sz : Nat) : rl_Cv (S := Nat → Nat) l ⟨"RightsLimit$Limits", "<init>", "()V"⟩ (Cond.code ⟨"RightsLimit$Limits", "<init>", "()V"⟩ prog_3_method_1_code 1 none :: rl_G) { frames := 1, cells := 4, slots := 400, locals := 12 } D rl_cl (rl_tys kI kZ) [] [.ref h] [(h, .inr (2, [.null, .null, .null, .null, .int 0]))] sz (fun _ : Nat → Nat => True) (fun b => [(h, .inr (2, [.ref (b 0), .ref (b 1), .ref (b 2), .ref (b 3), .int 0])), (b 0, .inl (kI, 100, .inl (fun _ => 0))), (b 1, .inl (kI, 100, .inl (fun _ => 0))), (b 2, .inl (kI, 100, .inl (fun _ => 0))), (b 3, .inl (kI, 100, .inl (fun _ => 0)))]) 4 400 := by
  refine rl_metv (cc := prog_3_method_1_code) (maxL := 1) (ret := none) (by decide) rfl (Nat.le_of_ble_eq_true rfl) ?_
  intro p e s m below meth c A ls hx hb hr hml hown hts hlocks hnm hP hK hD hS hA hN hl
  have hown : s.vm.findClass "RightsLimit$Limits" = some m.cls := hown
  have hG : ∀ x ∈ rl_G, x.before _ s = true := fun x h => hts x (List.mem_cons_of_mem _ h)
  have hl : lv_has ls 1 [(0, .ref h)] := hl
  have hP : va_P D rl_cl [(h, .inr (2, [.null, .null, .null, .null, .int 0]))] s.heap := hP
  have hD : va_D A [(h, .inr (2, [.null, .null, .null, .null, .int 0]))] := hD
  refine lv_aload_n hx hb d_l_init_0 rfl (lv_at hl 0 rfl) ?_
  refine W.objInit hx hb hown (hG _ wd_65) (hG _ wd_30) (hG _ wd_31) rfl (by rw [hml]; exact hl.1) rfl d_l_init_1 (Nat.le_of_ble_eq_true rfl) (Nat.le_of_ble_eq_true rfl) ?_
  refine W.eq (g2 := F0 m 4 ls []) rfl ?_
  refine lv_aload_n hx hb d_l_init_4 rfl (lv_at hl 0 rfl) ?_
  refine lv_bipush (v := 100) hx hb d_l_init_5 (by decide) ?_
  refine rl_newa (atype := .int) (ty := .int) (N' := 100) (a0 := (100, .inl (fun _ => 0))) hx hb (hG _ wd_58) rfl (fun _ h9 => by cases h9) 0 rfl hK hP hD hS hA (fun _ => rfl) (by decide) (by decide) (by decide) (Nat.le_of_ble_eq_true rfl) (Nat.le_of_ble_eq_true rfl) d_l_init_7 (fun q0 H hP hD hS => ?_)
  have hP : va_P D rl_cl [(h, .inr (2, [.null, .null, .null, .null, .int 0])), (q0, .inl (kI, 100, .inl (fun _ => 0)))] H := hP
  have hD : va_D A [(h, .inr (2, [.null, .null, .null, .null, .int 0])), (q0, .inl (kI, 100, .inl (fun _ => 0)))] := hD
  refine va_putF (D := D) (ci := 2) (v := .ref q0) (ty := fy_l 0) (C := "RightsLimit$Limits") (T := fT_l) (N := 5) hx hb hG fi_l fy_l fo_l fn_l hown hK hP hD hS 0 rfl rfl 0 (by decide) (hG _ wd_66) (fun _ h9 => h9) rfl hnm rfl (fo_l 0 (by decide)) rfl rfl (Nat.le_of_ble_eq_true rfl) d_l_init_9 (fun H locs hP hD hS => ?_)
  have hP : va_P D rl_cl [(h, .inr (2, [.ref q0, .null, .null, .null, .int 0])), (q0, .inl (kI, 100, .inl (fun _ => 0)))] H := hP
  have hD : va_D A [(h, .inr (2, [.ref q0, .null, .null, .null, .int 0])), (q0, .inl (kI, 100, .inl (fun _ => 0)))] := hD
  refine lv_aload_n hx hb d_l_init_12 rfl (lv_at hl 0 rfl) ?_
  refine lv_bipush (v := 100) hx hb d_l_init_13 (by decide) ?_
  refine rl_newa (atype := .int) (ty := .int) (N' := 100) (a0 := (100, .inl (fun _ => 0))) hx hb (hG _ wd_58) rfl (fun _ h9 => by cases h9) 0 rfl hK hP hD hS hA (fun _ => rfl) (by decide) (by decide) (by decide) (Nat.le_of_ble_eq_true rfl) (Nat.le_of_ble_eq_true rfl) d_l_init_15 (fun q1 H hP hD hS => ?_)
  have hP : va_P D rl_cl [(h, .inr (2, [.ref q0, .null, .null, .null, .int 0])), (q0, .inl (kI, 100, .inl (fun _ => 0))), (q1, .inl (kI, 100, .inl (fun _ => 0)))] H := hP
  have hD : va_D A [(h, .inr (2, [.ref q0, .null, .null, .null, .int 0])), (q0, .inl (kI, 100, .inl (fun _ => 0))), (q1, .inl (kI, 100, .inl (fun _ => 0)))] := hD
  refine va_putF (D := D) (ci := 2) (v := .ref q1) (ty := fy_l 1) (C := "RightsLimit$Limits") (T := fT_l) (N := 5) hx hb hG fi_l fy_l fo_l fn_l hown hK hP hD hS 0 rfl rfl 1 (by decide) (hG _ wd_67) (fun _ h9 => h9) rfl hnm rfl (fo_l 1 (by decide)) rfl rfl (Nat.le_of_ble_eq_true rfl) d_l_init_17 (fun H locs hP hD hS => ?_)
  have hP : va_P D rl_cl [(h, .inr (2, [.ref q0, .ref q1, .null, .null, .int 0])), (q0, .inl (kI, 100, .inl (fun _ => 0))), (q1, .inl (kI, 100, .inl (fun _ => 0)))] H := hP
  have hD : va_D A [(h, .inr (2, [.ref q0, .ref q1, .null, .null, .int 0])), (q0, .inl (kI, 100, .inl (fun _ => 0))), (q1, .inl (kI, 100, .inl (fun _ => 0)))] := hD
  refine lv_aload_n hx hb d_l_init_20 rfl (lv_at hl 0 rfl) ?_
  refine lv_bipush (v := 100) hx hb d_l_init_21 (by decide) ?_
  refine rl_newa (atype := .int) (ty := .int) (N' := 100) (a0 := (100, .inl (fun _ => 0))) hx hb (hG _ wd_58) rfl (fun _ h9 => by cases h9) 0 rfl hK hP hD hS hA (fun _ => rfl) (by decide) (by decide) (by decide) (Nat.le_of_ble_eq_true rfl) (Nat.le_of_ble_eq_true rfl) d_l_init_23 (fun q2 H hP hD hS => ?_)
  have hP : va_P D rl_cl [(h, .inr (2, [.ref q0, .ref q1, .null, .null, .int 0])), (q0, .inl (kI, 100, .inl (fun _ => 0))), (q1, .inl (kI, 100, .inl (fun _ => 0))), (q2, .inl (kI, 100, .inl (fun _ => 0)))] H := hP
  have hD : va_D A [(h, .inr (2, [.ref q0, .ref q1, .null, .null, .int 0])), (q0, .inl (kI, 100, .inl (fun _ => 0))), (q1, .inl (kI, 100, .inl (fun _ => 0))), (q2, .inl (kI, 100, .inl (fun _ => 0)))] := hD
  refine va_putF (D := D) (ci := 2) (v := .ref q2) (ty := fy_l 2) (C := "RightsLimit$Limits") (T := fT_l) (N := 5) hx hb hG fi_l fy_l fo_l fn_l hown hK hP hD hS 0 rfl rfl 2 (by decide) (hG _ wd_68) (fun _ h9 => h9) rfl hnm rfl (fo_l 2 (by decide)) rfl rfl (Nat.le_of_ble_eq_true rfl) d_l_init_25 (fun H locs hP hD hS => ?_)
  have hP : va_P D rl_cl [(h, .inr (2, [.ref q0, .ref q1, .ref q2, .null, .int 0])), (q0, .inl (kI, 100, .inl (fun _ => 0))), (q1, .inl (kI, 100, .inl (fun _ => 0))), (q2, .inl (kI, 100, .inl (fun _ => 0)))] H := hP
  have hD : va_D A [(h, .inr (2, [.ref q0, .ref q1, .ref q2, .null, .int 0])), (q0, .inl (kI, 100, .inl (fun _ => 0))), (q1, .inl (kI, 100, .inl (fun _ => 0))), (q2, .inl (kI, 100, .inl (fun _ => 0)))] := hD
  refine lv_aload_n hx hb d_l_init_28 rfl (lv_at hl 0 rfl) ?_
  refine lv_bipush (v := 100) hx hb d_l_init_29 (by decide) ?_
  refine rl_newa (atype := .int) (ty := .int) (N' := 100) (a0 := (100, .inl (fun _ => 0))) hx hb (hG _ wd_58) rfl (fun _ h9 => by cases h9) 0 rfl hK hP hD hS hA (fun _ => rfl) (by decide) (by decide) (by decide) (Nat.le_of_ble_eq_true rfl) (Nat.le_of_ble_eq_true rfl) d_l_init_31 (fun q3 H hP hD hS => ?_)
  have hP : va_P D rl_cl [(h, .inr (2, [.ref q0, .ref q1, .ref q2, .null, .int 0])), (q0, .inl (kI, 100, .inl (fun _ => 0))), (q1, .inl (kI, 100, .inl (fun _ => 0))), (q2, .inl (kI, 100, .inl (fun _ => 0))), (q3, .inl (kI, 100, .inl (fun _ => 0)))] H := hP
  have hD : va_D A [(h, .inr (2, [.ref q0, .ref q1, .ref q2, .null, .int 0])), (q0, .inl (kI, 100, .inl (fun _ => 0))), (q1, .inl (kI, 100, .inl (fun _ => 0))), (q2, .inl (kI, 100, .inl (fun _ => 0))), (q3, .inl (kI, 100, .inl (fun _ => 0)))] := hD
  refine va_putF (D := D) (ci := 2) (v := .ref q3) (ty := fy_l 3) (C := "RightsLimit$Limits") (T := fT_l) (N := 5) hx hb hG fi_l fy_l fo_l fn_l hown hK hP hD hS 0 rfl rfl 3 (by decide) (hG _ wd_70) (fun _ h9 => h9) rfl hnm rfl (fo_l 3 (by decide)) rfl rfl (Nat.le_of_ble_eq_true rfl) d_l_init_33 (fun H locs hP hD hS => ?_)
  have hP : va_P D rl_cl [(h, .inr (2, [.ref q0, .ref q1, .ref q2, .ref q3, .int 0])), (q0, .inl (kI, 100, .inl (fun _ => 0))), (q1, .inl (kI, 100, .inl (fun _ => 0))), (q2, .inl (kI, 100, .inl (fun _ => 0))), (q3, .inl (kI, 100, .inl (fun _ => 0)))] H := hP
  have hD : va_D A [(h, .inr (2, [.ref q0, .ref q1, .ref q2, .ref q3, .int 0])), (q0, .inl (kI, 100, .inl (fun _ => 0))), (q1, .inl (kI, 100, .inl (fun _ => 0))), (q2, .inl (kI, 100, .inl (fun _ => 0))), (q3, .inl (kI, 100, .inl (fun _ => 0)))] := hD
  refine lv_aload_n hx hb d_l_init_36 rfl (lv_at hl 0 rfl) ?_
  refine lv_iconst (v := 0) hx hb d_l_init_37 (by decide) ?_
  refine va_put (D := D) (ci := 2) (v := .int 0) (ty := fy_l 4) (C := "RightsLimit$Limits") (T := fT_l) (N := 5) hx hb hG fi_l fy_l fo_l fn_l hown hK hP hD hS 0 rfl rfl 4 (by decide) (hG _ wd_72) (fun _ h9 => h9) rfl (fo_l 4 (by decide)) rfl rfl (Nat.le_of_ble_eq_true rfl) d_l_init_38 (fun H locs hP hD hS => ?_)
  have hP : va_P D rl_cl [(h, .inr (2, [.ref q0, .ref q1, .ref q2, .ref q3, .int 0])), (q0, .inl (kI, 100, .inl (fun _ => 0))), (q1, .inl (kI, 100, .inl (fun _ => 0))), (q2, .inl (kI, 100, .inl (fun _ => 0))), (q3, .inl (kI, 100, .inl (fun _ => 0)))] H := hP
  have hD : va_D A [(h, .inr (2, [.ref q0, .ref q1, .ref q2, .ref q3, .int 0])), (q0, .inl (kI, 100, .inl (fun _ => 0))), (q1, .inl (kI, 100, .inl (fun _ => 0))), (q2, .inl (kI, 100, .inl (fun _ => 0))), (q3, .inl (kI, 100, .inl (fun _ => 0)))] := hD
  exact W.vret hx hb hr (fun t ht hW => ⟨⟨(fun k => match k with | 0 => q0 | 1 => q1 | 2 => q2 | 3 => q3 | _ => 0), rfl, trivial, ⟨by rw [ht]; exact hP, hD⟩⟩, hS.F ht⟩) hS.2.2 d_l_init_41
set_option maxHeartbeats 4000000 in
set_option maxRecDepth 100000 in
theorem k_c_init (l : Launch) (D : va_G) (h : Nat) (kI kZ : ClassId) (sz : Nat) : rl_Cv (S := Nat → Nat) l ⟨"RightsLimit$Licences", "<init>", "()V"⟩ (Cond.code ⟨"RightsLimit$Licences", "<init>", "()V"⟩ prog_2_method_1_code 1 none :: rl_G) { frames := 1, cells := 5, slots := 250, locals := 12 } D rl_cl (rl_tys kI kZ) [] [.ref h] [(h, .inr (3, [.null, .null, .null, .null, .null, .int 0]))] sz (fun _ : Nat → Nat => True) (fun b => [(h, .inr (3, [.ref (b 0), .ref (b 1), .ref (b 2), .ref (b 3), .ref (b 4), .int 0])), (b 0, .inl (kI, 50, .inl (fun _ => 0))), (b 1, .inl (kI, 50, .inl (fun _ => 0))), (b 2, .inl (kI, 50, .inl (fun _ => 0))), (b 3, .inl (kI, 50, .inl (fun _ => 0))), (b 4, .inl (kI, 50, .inl (fun _ => 0)))]) 5 250 := by
  refine rl_metv (cc := prog_2_method_1_code) (maxL := 1) (ret := none) (by decide) rfl (Nat.le_of_ble_eq_true rfl) ?_
  intro p e s m below meth c A ls hx hb hr hml hown hts hlocks hnm hP hK hD hS hA hN hl
  have hown : s.vm.findClass "RightsLimit$Licences" = some m.cls := hown
  have hG : ∀ x ∈ rl_G, x.before _ s = true := fun x h => hts x (List.mem_cons_of_mem _ h)
  have hl : lv_has ls 1 [(0, .ref h)] := hl
  have hP : va_P D rl_cl [(h, .inr (3, [.null, .null, .null, .null, .null, .int 0]))] s.heap := hP
  have hD : va_D A [(h, .inr (3, [.null, .null, .null, .null, .null, .int 0]))] := hD
  refine lv_aload_n hx hb d_c_init_0 rfl (lv_at hl 0 rfl) ?_
  refine W.objInit hx hb hown (hG _ wd_90) (hG _ wd_30) (hG _ wd_31) rfl (by rw [hml]; exact hl.1) rfl d_c_init_1 (Nat.le_of_ble_eq_true rfl) (Nat.le_of_ble_eq_true rfl) ?_
  refine W.eq (g2 := F0 m 4 ls []) rfl ?_
  refine lv_aload_n hx hb d_c_init_4 rfl (lv_at hl 0 rfl) ?_
  refine lv_bipush (v := 50) hx hb d_c_init_5 (by decide) ?_
  refine rl_newa (atype := .int) (ty := .int) (N' := 50) (a0 := (50, .inl (fun _ => 0))) hx hb (hG _ wd_58) rfl (fun _ h9 => by cases h9) 0 rfl hK hP hD hS hA (fun _ => rfl) (by decide) (by decide) (by decide) (Nat.le_of_ble_eq_true rfl) (Nat.le_of_ble_eq_true rfl) d_c_init_7 (fun q0 H hP hD hS => ?_)
  have hP : va_P D rl_cl [(h, .inr (3, [.null, .null, .null, .null, .null, .int 0])), (q0, .inl (kI, 50, .inl (fun _ => 0)))] H := hP
  have hD : va_D A [(h, .inr (3, [.null, .null, .null, .null, .null, .int 0])), (q0, .inl (kI, 50, .inl (fun _ => 0)))] := hD
  refine va_putF (D := D) (ci := 3) (v := .ref q0) (ty := fy_c 0) (C := "RightsLimit$Licences") (T := fT_c) (N := 6) hx hb hG fi_c fy_c fo_c fn_c hown hK hP hD hS 0 rfl rfl 0 (by decide) (hG _ wd_91) (fun _ h9 => h9) rfl hnm rfl (fo_c 0 (by decide)) rfl rfl (Nat.le_of_ble_eq_true rfl) d_c_init_9 (fun H locs hP hD hS => ?_)
  have hP : va_P D rl_cl [(h, .inr (3, [.ref q0, .null, .null, .null, .null, .int 0])), (q0, .inl (kI, 50, .inl (fun _ => 0)))] H := hP
  have hD : va_D A [(h, .inr (3, [.ref q0, .null, .null, .null, .null, .int 0])), (q0, .inl (kI, 50, .inl (fun _ => 0)))] := hD
  refine lv_aload_n hx hb d_c_init_12 rfl (lv_at hl 0 rfl) ?_
  refine lv_bipush (v := 50) hx hb d_c_init_13 (by decide) ?_
  refine rl_newa (atype := .int) (ty := .int) (N' := 50) (a0 := (50, .inl (fun _ => 0))) hx hb (hG _ wd_58) rfl (fun _ h9 => by cases h9) 0 rfl hK hP hD hS hA (fun _ => rfl) (by decide) (by decide) (by decide) (Nat.le_of_ble_eq_true rfl) (Nat.le_of_ble_eq_true rfl) d_c_init_15 (fun q1 H hP hD hS => ?_)
  have hP : va_P D rl_cl [(h, .inr (3, [.ref q0, .null, .null, .null, .null, .int 0])), (q0, .inl (kI, 50, .inl (fun _ => 0))), (q1, .inl (kI, 50, .inl (fun _ => 0)))] H := hP
  have hD : va_D A [(h, .inr (3, [.ref q0, .null, .null, .null, .null, .int 0])), (q0, .inl (kI, 50, .inl (fun _ => 0))), (q1, .inl (kI, 50, .inl (fun _ => 0)))] := hD
  refine va_putF (D := D) (ci := 3) (v := .ref q1) (ty := fy_c 1) (C := "RightsLimit$Licences") (T := fT_c) (N := 6) hx hb hG fi_c fy_c fo_c fn_c hown hK hP hD hS 0 rfl rfl 1 (by decide) (hG _ wd_92) (fun _ h9 => h9) rfl hnm rfl (fo_c 1 (by decide)) rfl rfl (Nat.le_of_ble_eq_true rfl) d_c_init_17 (fun H locs hP hD hS => ?_)
  have hP : va_P D rl_cl [(h, .inr (3, [.ref q0, .ref q1, .null, .null, .null, .int 0])), (q0, .inl (kI, 50, .inl (fun _ => 0))), (q1, .inl (kI, 50, .inl (fun _ => 0)))] H := hP
  have hD : va_D A [(h, .inr (3, [.ref q0, .ref q1, .null, .null, .null, .int 0])), (q0, .inl (kI, 50, .inl (fun _ => 0))), (q1, .inl (kI, 50, .inl (fun _ => 0)))] := hD
  refine lv_aload_n hx hb d_c_init_20 rfl (lv_at hl 0 rfl) ?_
  refine lv_bipush (v := 50) hx hb d_c_init_21 (by decide) ?_
  refine rl_newa (atype := .int) (ty := .int) (N' := 50) (a0 := (50, .inl (fun _ => 0))) hx hb (hG _ wd_58) rfl (fun _ h9 => by cases h9) 0 rfl hK hP hD hS hA (fun _ => rfl) (by decide) (by decide) (by decide) (Nat.le_of_ble_eq_true rfl) (Nat.le_of_ble_eq_true rfl) d_c_init_23 (fun q2 H hP hD hS => ?_)
  have hP : va_P D rl_cl [(h, .inr (3, [.ref q0, .ref q1, .null, .null, .null, .int 0])), (q0, .inl (kI, 50, .inl (fun _ => 0))), (q1, .inl (kI, 50, .inl (fun _ => 0))), (q2, .inl (kI, 50, .inl (fun _ => 0)))] H := hP
  have hD : va_D A [(h, .inr (3, [.ref q0, .ref q1, .null, .null, .null, .int 0])), (q0, .inl (kI, 50, .inl (fun _ => 0))), (q1, .inl (kI, 50, .inl (fun _ => 0))), (q2, .inl (kI, 50, .inl (fun _ => 0)))] := hD
  refine va_putF (D := D) (ci := 3) (v := .ref q2) (ty := fy_c 2) (C := "RightsLimit$Licences") (T := fT_c) (N := 6) hx hb hG fi_c fy_c fo_c fn_c hown hK hP hD hS 0 rfl rfl 2 (by decide) (hG _ wd_93) (fun _ h9 => h9) rfl hnm rfl (fo_c 2 (by decide)) rfl rfl (Nat.le_of_ble_eq_true rfl) d_c_init_25 (fun H locs hP hD hS => ?_)
  have hP : va_P D rl_cl [(h, .inr (3, [.ref q0, .ref q1, .ref q2, .null, .null, .int 0])), (q0, .inl (kI, 50, .inl (fun _ => 0))), (q1, .inl (kI, 50, .inl (fun _ => 0))), (q2, .inl (kI, 50, .inl (fun _ => 0)))] H := hP
  have hD : va_D A [(h, .inr (3, [.ref q0, .ref q1, .ref q2, .null, .null, .int 0])), (q0, .inl (kI, 50, .inl (fun _ => 0))), (q1, .inl (kI, 50, .inl (fun _ => 0))), (q2, .inl (kI, 50, .inl (fun _ => 0)))] := hD
  refine lv_aload_n hx hb d_c_init_28 rfl (lv_at hl 0 rfl) ?_
  refine lv_bipush (v := 50) hx hb d_c_init_29 (by decide) ?_
  refine rl_newa (atype := .int) (ty := .int) (N' := 50) (a0 := (50, .inl (fun _ => 0))) hx hb (hG _ wd_58) rfl (fun _ h9 => by cases h9) 0 rfl hK hP hD hS hA (fun _ => rfl) (by decide) (by decide) (by decide) (Nat.le_of_ble_eq_true rfl) (Nat.le_of_ble_eq_true rfl) d_c_init_31 (fun q3 H hP hD hS => ?_)
  have hP : va_P D rl_cl [(h, .inr (3, [.ref q0, .ref q1, .ref q2, .null, .null, .int 0])), (q0, .inl (kI, 50, .inl (fun _ => 0))), (q1, .inl (kI, 50, .inl (fun _ => 0))), (q2, .inl (kI, 50, .inl (fun _ => 0))), (q3, .inl (kI, 50, .inl (fun _ => 0)))] H := hP
  have hD : va_D A [(h, .inr (3, [.ref q0, .ref q1, .ref q2, .null, .null, .int 0])), (q0, .inl (kI, 50, .inl (fun _ => 0))), (q1, .inl (kI, 50, .inl (fun _ => 0))), (q2, .inl (kI, 50, .inl (fun _ => 0))), (q3, .inl (kI, 50, .inl (fun _ => 0)))] := hD
  refine va_putF (D := D) (ci := 3) (v := .ref q3) (ty := fy_c 3) (C := "RightsLimit$Licences") (T := fT_c) (N := 6) hx hb hG fi_c fy_c fo_c fn_c hown hK hP hD hS 0 rfl rfl 3 (by decide) (hG _ wd_95) (fun _ h9 => h9) rfl hnm rfl (fo_c 3 (by decide)) rfl rfl (Nat.le_of_ble_eq_true rfl) d_c_init_33 (fun H locs hP hD hS => ?_)
  have hP : va_P D rl_cl [(h, .inr (3, [.ref q0, .ref q1, .ref q2, .ref q3, .null, .int 0])), (q0, .inl (kI, 50, .inl (fun _ => 0))), (q1, .inl (kI, 50, .inl (fun _ => 0))), (q2, .inl (kI, 50, .inl (fun _ => 0))), (q3, .inl (kI, 50, .inl (fun _ => 0)))] H := hP
  have hD : va_D A [(h, .inr (3, [.ref q0, .ref q1, .ref q2, .ref q3, .null, .int 0])), (q0, .inl (kI, 50, .inl (fun _ => 0))), (q1, .inl (kI, 50, .inl (fun _ => 0))), (q2, .inl (kI, 50, .inl (fun _ => 0))), (q3, .inl (kI, 50, .inl (fun _ => 0)))] := hD
  refine lv_aload_n hx hb d_c_init_36 rfl (lv_at hl 0 rfl) ?_
  refine lv_bipush (v := 50) hx hb d_c_init_37 (by decide) ?_
  refine rl_newa (atype := .int) (ty := .int) (N' := 50) (a0 := (50, .inl (fun _ => 0))) hx hb (hG _ wd_58) rfl (fun _ h9 => by cases h9) 0 rfl hK hP hD hS hA (fun _ => rfl) (by decide) (by decide) (by decide) (Nat.le_of_ble_eq_true rfl) (Nat.le_of_ble_eq_true rfl) d_c_init_39 (fun q4 H hP hD hS => ?_)
  have hP : va_P D rl_cl [(h, .inr (3, [.ref q0, .ref q1, .ref q2, .ref q3, .null, .int 0])), (q0, .inl (kI, 50, .inl (fun _ => 0))), (q1, .inl (kI, 50, .inl (fun _ => 0))), (q2, .inl (kI, 50, .inl (fun _ => 0))), (q3, .inl (kI, 50, .inl (fun _ => 0))), (q4, .inl (kI, 50, .inl (fun _ => 0)))] H := hP
  have hD : va_D A [(h, .inr (3, [.ref q0, .ref q1, .ref q2, .ref q3, .null, .int 0])), (q0, .inl (kI, 50, .inl (fun _ => 0))), (q1, .inl (kI, 50, .inl (fun _ => 0))), (q2, .inl (kI, 50, .inl (fun _ => 0))), (q3, .inl (kI, 50, .inl (fun _ => 0))), (q4, .inl (kI, 50, .inl (fun _ => 0)))] := hD
  refine va_putF (D := D) (ci := 3) (v := .ref q4) (ty := fy_c 4) (C := "RightsLimit$Licences") (T := fT_c) (N := 6) hx hb hG fi_c fy_c fo_c fn_c hown hK hP hD hS 0 rfl rfl 4 (by decide) (hG _ wd_96) (fun _ h9 => h9) rfl hnm rfl (fo_c 4 (by decide)) rfl rfl (Nat.le_of_ble_eq_true rfl) d_c_init_41 (fun H locs hP hD hS => ?_)
  have hP : va_P D rl_cl [(h, .inr (3, [.ref q0, .ref q1, .ref q2, .ref q3, .ref q4, .int 0])), (q0, .inl (kI, 50, .inl (fun _ => 0))), (q1, .inl (kI, 50, .inl (fun _ => 0))), (q2, .inl (kI, 50, .inl (fun _ => 0))), (q3, .inl (kI, 50, .inl (fun _ => 0))), (q4, .inl (kI, 50, .inl (fun _ => 0)))] H := hP
  have hD : va_D A [(h, .inr (3, [.ref q0, .ref q1, .ref q2, .ref q3, .ref q4, .int 0])), (q0, .inl (kI, 50, .inl (fun _ => 0))), (q1, .inl (kI, 50, .inl (fun _ => 0))), (q2, .inl (kI, 50, .inl (fun _ => 0))), (q3, .inl (kI, 50, .inl (fun _ => 0))), (q4, .inl (kI, 50, .inl (fun _ => 0)))] := hD
  refine lv_aload_n hx hb d_c_init_44 rfl (lv_at hl 0 rfl) ?_
  refine lv_iconst (v := 0) hx hb d_c_init_45 (by decide) ?_
  refine va_put (D := D) (ci := 3) (v := .int 0) (ty := fy_c 5) (C := "RightsLimit$Licences") (T := fT_c) (N := 6) hx hb hG fi_c fy_c fo_c fn_c hown hK hP hD hS 0 rfl rfl 5 (by decide) (hG _ wd_97) (fun _ h9 => h9) rfl (fo_c 5 (by decide)) rfl rfl (Nat.le_of_ble_eq_true rfl) d_c_init_46 (fun H locs hP hD hS => ?_)
  have hP : va_P D rl_cl [(h, .inr (3, [.ref q0, .ref q1, .ref q2, .ref q3, .ref q4, .int 0])), (q0, .inl (kI, 50, .inl (fun _ => 0))), (q1, .inl (kI, 50, .inl (fun _ => 0))), (q2, .inl (kI, 50, .inl (fun _ => 0))), (q3, .inl (kI, 50, .inl (fun _ => 0))), (q4, .inl (kI, 50, .inl (fun _ => 0)))] H := hP
  have hD : va_D A [(h, .inr (3, [.ref q0, .ref q1, .ref q2, .ref q3, .ref q4, .int 0])), (q0, .inl (kI, 50, .inl (fun _ => 0))), (q1, .inl (kI, 50, .inl (fun _ => 0))), (q2, .inl (kI, 50, .inl (fun _ => 0))), (q3, .inl (kI, 50, .inl (fun _ => 0))), (q4, .inl (kI, 50, .inl (fun _ => 0)))] := hD
  exact W.vret hx hb hr (fun t ht hW => ⟨⟨(fun k => match k with | 0 => q0 | 1 => q1 | 2 => q2 | 3 => q3 | 4 => q4 | _ => 0), rfl, trivial, ⟨by rw [ht]; exact hP, hD⟩⟩, hS.F ht⟩) hS.2.2 d_c_init_49
set_option maxHeartbeats 4000000 in
set_option maxRecDepth 100000 in
theorem k_q_init (l : Launch) (D : va_G) (h : Nat) (kI kZ : ClassId) (sz : Nat) : rl_Cv (S := Nat → Nat) l ⟨"RightsLimit$Requests", "<init>", "()V"⟩ (Cond.code ⟨"RightsLimit$Requests", "<init>", "()V"⟩ prog_4_method_1_code 1 none :: rl_G) { frames := 1, cells := 12, slots := 3600, locals := 12 } D rl_cl (rl_tys kI kZ) [] [.ref h] [(h, .inr (4, [.null, .null, .null, .null, .null, .null, .null, .null, .null, .null, .null, .null, .int 0]))] sz (fun _ : Nat → Nat => True) (fun b => [(h, .inr (4, [.ref (b 0), .ref (b 1), .ref (b 2), .ref (b 3), .ref (b 4), .ref (b 5), .ref (b 6), .ref (b 7), .ref (b 8), .ref (b 9), .ref (b 10), .ref (b 11), .int 0])), (b 0, .inl (kI, 300, .inl (fun _ => 0))), (b 1, .inl (kI, 300, .inl (fun _ => 0))), (b 2, .inl (kI, 300, .inl (fun _ => 0))), (b 3, .inl (kI, 300, .inl (fun _ => 0))), (b 4, .inl (kI, 300, .inl (fun _ => 0))), (b 5, .inl (kI, 300, .inl (fun _ => 0))), (b 6, .inl (kI, 300, .inl (fun _ => 0))), (b 7, .inl (kI, 300, .inl (fun _ => 0))), (b 8, .inl (kI, 300, .inl (fun _ => 0))), (b 9, .inl (kI, 300, .inl (fun _ => 0))), (b 10, .inl (kI, 300, .inl (fun _ => 0))), (b 11, .inl (kI, 300, .inl (fun _ => 0)))]) 12 3600 := by
  refine rl_metv (cc := prog_4_method_1_code) (maxL := 1) (ret := none) (by decide) rfl (Nat.le_of_ble_eq_true rfl) ?_
  intro p e s m below meth c A ls hx hb hr hml hown hts hlocks hnm hP hK hD hS hA hN hl
  have hown : s.vm.findClass "RightsLimit$Requests" = some m.cls := hown
  have hG : ∀ x ∈ rl_G, x.before _ s = true := fun x h => hts x (List.mem_cons_of_mem _ h)
  have hl : lv_has ls 1 [(0, .ref h)] := hl
  have hP : va_P D rl_cl [(h, .inr (4, [.null, .null, .null, .null, .null, .null, .null, .null, .null, .null, .null, .null, .int 0]))] s.heap := hP
  have hD : va_D A [(h, .inr (4, [.null, .null, .null, .null, .null, .null, .null, .null, .null, .null, .null, .null, .int 0]))] := hD
  refine lv_aload_n hx hb d_q_init_0 rfl (lv_at hl 0 rfl) ?_
  refine W.objInit hx hb hown (hG _ wd_116) (hG _ wd_30) (hG _ wd_31) rfl (by rw [hml]; exact hl.1) rfl d_q_init_1 (Nat.le_of_ble_eq_true rfl) (Nat.le_of_ble_eq_true rfl) ?_
  refine W.eq (g2 := F0 m 4 ls []) rfl ?_
  refine lv_aload_n hx hb d_q_init_4 rfl (lv_at hl 0 rfl) ?_
  refine lv_sipush (v := 300) hx hb d_q_init_5 (by decide) ?_
  refine rl_newa (atype := .int) (ty := .int) (N' := 300) (a0 := (300, .inl (fun _ => 0))) hx hb (hG _ wd_58) rfl (fun _ h9 => by cases h9) 0 rfl hK hP hD hS hA (fun _ => rfl) (by decide) (by decide) (by decide) (Nat.le_of_ble_eq_true rfl) (Nat.le_of_ble_eq_true rfl) d_q_init_8 (fun q0 H hP hD hS => ?_)
  have hP : va_P D rl_cl [(h, .inr (4, [.null, .null, .null, .null, .null, .null, .null, .null, .null, .null, .null, .null, .int 0])), (q0, .inl (kI, 300, .inl (fun _ => 0)))] H := hP
  have hD : va_D A [(h, .inr (4, [.null, .null, .null, .null, .null, .null, .null, .null, .null, .null, .null, .null, .int 0])), (q0, .inl (kI, 300, .inl (fun _ => 0)))] := hD
  refine va_putF (D := D) (ci := 4) (v := .ref q0) (ty := fy_q 0) (C := "RightsLimit$Requests") (T := fT_q) (N := 13) hx hb hG fi_q fy_q fo_q fn_q hown hK hP hD hS 0 rfl rfl 0 (by decide) (hG _ wd_117) (fun _ h9 => h9) rfl hnm rfl (fo_q 0 (by decide)) rfl rfl (Nat.le_of_ble_eq_true rfl) d_q_init_10 (fun H locs hP hD hS => ?_)
  have hP : va_P D rl_cl [(h, .inr (4, [.ref q0, .null, .null, .null, .null, .null, .null, .null, .null, .null, .null, .null, .int 0])), (q0, .inl (kI, 300, .inl (fun _ => 0)))] H := hP
  have hD : va_D A [(h, .inr (4, [.ref q0, .null, .null, .null, .null, .null, .null, .null, .null, .null, .null, .null, .int 0])), (q0, .inl (kI, 300, .inl (fun _ => 0)))] := hD
  refine lv_aload_n hx hb d_q_init_13 rfl (lv_at hl 0 rfl) ?_
  refine lv_sipush (v := 300) hx hb d_q_init_14 (by decide) ?_
  refine rl_newa (atype := .int) (ty := .int) (N' := 300) (a0 := (300, .inl (fun _ => 0))) hx hb (hG _ wd_58) rfl (fun _ h9 => by cases h9) 0 rfl hK hP hD hS hA (fun _ => rfl) (by decide) (by decide) (by decide) (Nat.le_of_ble_eq_true rfl) (Nat.le_of_ble_eq_true rfl) d_q_init_17 (fun q1 H hP hD hS => ?_)
  have hP : va_P D rl_cl [(h, .inr (4, [.ref q0, .null, .null, .null, .null, .null, .null, .null, .null, .null, .null, .null, .int 0])), (q0, .inl (kI, 300, .inl (fun _ => 0))), (q1, .inl (kI, 300, .inl (fun _ => 0)))] H := hP
  have hD : va_D A [(h, .inr (4, [.ref q0, .null, .null, .null, .null, .null, .null, .null, .null, .null, .null, .null, .int 0])), (q0, .inl (kI, 300, .inl (fun _ => 0))), (q1, .inl (kI, 300, .inl (fun _ => 0)))] := hD
  refine va_putF (D := D) (ci := 4) (v := .ref q1) (ty := fy_q 1) (C := "RightsLimit$Requests") (T := fT_q) (N := 13) hx hb hG fi_q fy_q fo_q fn_q hown hK hP hD hS 0 rfl rfl 1 (by decide) (hG _ wd_119) (fun _ h9 => h9) rfl hnm rfl (fo_q 1 (by decide)) rfl rfl (Nat.le_of_ble_eq_true rfl) d_q_init_19 (fun H locs hP hD hS => ?_)
  have hP : va_P D rl_cl [(h, .inr (4, [.ref q0, .ref q1, .null, .null, .null, .null, .null, .null, .null, .null, .null, .null, .int 0])), (q0, .inl (kI, 300, .inl (fun _ => 0))), (q1, .inl (kI, 300, .inl (fun _ => 0)))] H := hP
  have hD : va_D A [(h, .inr (4, [.ref q0, .ref q1, .null, .null, .null, .null, .null, .null, .null, .null, .null, .null, .int 0])), (q0, .inl (kI, 300, .inl (fun _ => 0))), (q1, .inl (kI, 300, .inl (fun _ => 0)))] := hD
  refine lv_aload_n hx hb d_q_init_22 rfl (lv_at hl 0 rfl) ?_
  refine lv_sipush (v := 300) hx hb d_q_init_23 (by decide) ?_
  refine rl_newa (atype := .int) (ty := .int) (N' := 300) (a0 := (300, .inl (fun _ => 0))) hx hb (hG _ wd_58) rfl (fun _ h9 => by cases h9) 0 rfl hK hP hD hS hA (fun _ => rfl) (by decide) (by decide) (by decide) (Nat.le_of_ble_eq_true rfl) (Nat.le_of_ble_eq_true rfl) d_q_init_26 (fun q2 H hP hD hS => ?_)
  have hP : va_P D rl_cl [(h, .inr (4, [.ref q0, .ref q1, .null, .null, .null, .null, .null, .null, .null, .null, .null, .null, .int 0])), (q0, .inl (kI, 300, .inl (fun _ => 0))), (q1, .inl (kI, 300, .inl (fun _ => 0))), (q2, .inl (kI, 300, .inl (fun _ => 0)))] H := hP
  have hD : va_D A [(h, .inr (4, [.ref q0, .ref q1, .null, .null, .null, .null, .null, .null, .null, .null, .null, .null, .int 0])), (q0, .inl (kI, 300, .inl (fun _ => 0))), (q1, .inl (kI, 300, .inl (fun _ => 0))), (q2, .inl (kI, 300, .inl (fun _ => 0)))] := hD
  refine va_putF (D := D) (ci := 4) (v := .ref q2) (ty := fy_q 2) (C := "RightsLimit$Requests") (T := fT_q) (N := 13) hx hb hG fi_q fy_q fo_q fn_q hown hK hP hD hS 0 rfl rfl 2 (by decide) (hG _ wd_121) (fun _ h9 => h9) rfl hnm rfl (fo_q 2 (by decide)) rfl rfl (Nat.le_of_ble_eq_true rfl) d_q_init_28 (fun H locs hP hD hS => ?_)
  have hP : va_P D rl_cl [(h, .inr (4, [.ref q0, .ref q1, .ref q2, .null, .null, .null, .null, .null, .null, .null, .null, .null, .int 0])), (q0, .inl (kI, 300, .inl (fun _ => 0))), (q1, .inl (kI, 300, .inl (fun _ => 0))), (q2, .inl (kI, 300, .inl (fun _ => 0)))] H := hP
  have hD : va_D A [(h, .inr (4, [.ref q0, .ref q1, .ref q2, .null, .null, .null, .null, .null, .null, .null, .null, .null, .int 0])), (q0, .inl (kI, 300, .inl (fun _ => 0))), (q1, .inl (kI, 300, .inl (fun _ => 0))), (q2, .inl (kI, 300, .inl (fun _ => 0)))] := hD
  refine lv_aload_n hx hb d_q_init_31 rfl (lv_at hl 0 rfl) ?_
  refine lv_sipush (v := 300) hx hb d_q_init_32 (by decide) ?_
  refine rl_newa (atype := .int) (ty := .int) (N' := 300) (a0 := (300, .inl (fun _ => 0))) hx hb (hG _ wd_58) rfl (fun _ h9 => by cases h9) 0 rfl hK hP hD hS hA (fun _ => rfl) (by decide) (by decide) (by decide) (Nat.le_of_ble_eq_true rfl) (Nat.le_of_ble_eq_true rfl) d_q_init_35 (fun q3 H hP hD hS => ?_)
  have hP : va_P D rl_cl [(h, .inr (4, [.ref q0, .ref q1, .ref q2, .null, .null, .null, .null, .null, .null, .null, .null, .null, .int 0])), (q0, .inl (kI, 300, .inl (fun _ => 0))), (q1, .inl (kI, 300, .inl (fun _ => 0))), (q2, .inl (kI, 300, .inl (fun _ => 0))), (q3, .inl (kI, 300, .inl (fun _ => 0)))] H := hP
  have hD : va_D A [(h, .inr (4, [.ref q0, .ref q1, .ref q2, .null, .null, .null, .null, .null, .null, .null, .null, .null, .int 0])), (q0, .inl (kI, 300, .inl (fun _ => 0))), (q1, .inl (kI, 300, .inl (fun _ => 0))), (q2, .inl (kI, 300, .inl (fun _ => 0))), (q3, .inl (kI, 300, .inl (fun _ => 0)))] := hD
  refine va_putF (D := D) (ci := 4) (v := .ref q3) (ty := fy_q 3) (C := "RightsLimit$Requests") (T := fT_q) (N := 13) hx hb hG fi_q fy_q fo_q fn_q hown hK hP hD hS 0 rfl rfl 3 (by decide) (hG _ wd_123) (fun _ h9 => h9) rfl hnm rfl (fo_q 3 (by decide)) rfl rfl (Nat.le_of_ble_eq_true rfl) d_q_init_37 (fun H locs hP hD hS => ?_)
  have hP : va_P D rl_cl [(h, .inr (4, [.ref q0, .ref q1, .ref q2, .ref q3, .null, .null, .null, .null, .null, .null, .null, .null, .int 0])), (q0, .inl (kI, 300, .inl (fun _ => 0))), (q1, .inl (kI, 300, .inl (fun _ => 0))), (q2, .inl (kI, 300, .inl (fun _ => 0))), (q3, .inl (kI, 300, .inl (fun _ => 0)))] H := hP
  have hD : va_D A [(h, .inr (4, [.ref q0, .ref q1, .ref q2, .ref q3, .null, .null, .null, .null, .null, .null, .null, .null, .int 0])), (q0, .inl (kI, 300, .inl (fun _ => 0))), (q1, .inl (kI, 300, .inl (fun _ => 0))), (q2, .inl (kI, 300, .inl (fun _ => 0))), (q3, .inl (kI, 300, .inl (fun _ => 0)))] := hD
  refine lv_aload_n hx hb d_q_init_40 rfl (lv_at hl 0 rfl) ?_
  refine lv_sipush (v := 300) hx hb d_q_init_41 (by decide) ?_
  refine rl_newa (atype := .int) (ty := .int) (N' := 300) (a0 := (300, .inl (fun _ => 0))) hx hb (hG _ wd_58) rfl (fun _ h9 => by cases h9) 0 rfl hK hP hD hS hA (fun _ => rfl) (by decide) (by decide) (by decide) (Nat.le_of_ble_eq_true rfl) (Nat.le_of_ble_eq_true rfl) d_q_init_44 (fun q4 H hP hD hS => ?_)
  have hP : va_P D rl_cl [(h, .inr (4, [.ref q0, .ref q1, .ref q2, .ref q3, .null, .null, .null, .null, .null, .null, .null, .null, .int 0])), (q0, .inl (kI, 300, .inl (fun _ => 0))), (q1, .inl (kI, 300, .inl (fun _ => 0))), (q2, .inl (kI, 300, .inl (fun _ => 0))), (q3, .inl (kI, 300, .inl (fun _ => 0))), (q4, .inl (kI, 300, .inl (fun _ => 0)))] H := hP
  have hD : va_D A [(h, .inr (4, [.ref q0, .ref q1, .ref q2, .ref q3, .null, .null, .null, .null, .null, .null, .null, .null, .int 0])), (q0, .inl (kI, 300, .inl (fun _ => 0))), (q1, .inl (kI, 300, .inl (fun _ => 0))), (q2, .inl (kI, 300, .inl (fun _ => 0))), (q3, .inl (kI, 300, .inl (fun _ => 0))), (q4, .inl (kI, 300, .inl (fun _ => 0)))] := hD
  refine va_putF (D := D) (ci := 4) (v := .ref q4) (ty := fy_q 4) (C := "RightsLimit$Requests") (T := fT_q) (N := 13) hx hb hG fi_q fy_q fo_q fn_q hown hK hP hD hS 0 rfl rfl 4 (by decide) (hG _ wd_125) (fun _ h9 => h9) rfl hnm rfl (fo_q 4 (by decide)) rfl rfl (Nat.le_of_ble_eq_true rfl) d_q_init_46 (fun H locs hP hD hS => ?_)
  have hP : va_P D rl_cl [(h, .inr (4, [.ref q0, .ref q1, .ref q2, .ref q3, .ref q4, .null, .null, .null, .null, .null, .null, .null, .int 0])), (q0, .inl (kI, 300, .inl (fun _ => 0))), (q1, .inl (kI, 300, .inl (fun _ => 0))), (q2, .inl (kI, 300, .inl (fun _ => 0))), (q3, .inl (kI, 300, .inl (fun _ => 0))), (q4, .inl (kI, 300, .inl (fun _ => 0)))] H := hP
  have hD : va_D A [(h, .inr (4, [.ref q0, .ref q1, .ref q2, .ref q3, .ref q4, .null, .null, .null, .null, .null, .null, .null, .int 0])), (q0, .inl (kI, 300, .inl (fun _ => 0))), (q1, .inl (kI, 300, .inl (fun _ => 0))), (q2, .inl (kI, 300, .inl (fun _ => 0))), (q3, .inl (kI, 300, .inl (fun _ => 0))), (q4, .inl (kI, 300, .inl (fun _ => 0)))] := hD
  refine lv_aload_n hx hb d_q_init_49 rfl (lv_at hl 0 rfl) ?_
  refine lv_sipush (v := 300) hx hb d_q_init_50 (by decide) ?_
  refine rl_newa (atype := .int) (ty := .int) (N' := 300) (a0 := (300, .inl (fun _ => 0))) hx hb (hG _ wd_58) rfl (fun _ h9 => by cases h9) 0 rfl hK hP hD hS hA (fun _ => rfl) (by decide) (by decide) (by decide) (Nat.le_of_ble_eq_true rfl) (Nat.le_of_ble_eq_true rfl) d_q_init_53 (fun q5 H hP hD hS => ?_)
  have hP : va_P D rl_cl [(h, .inr (4, [.ref q0, .ref q1, .ref q2, .ref q3, .ref q4, .null, .null, .null, .null, .null, .null, .null, .int 0])), (q0, .inl (kI, 300, .inl (fun _ => 0))), (q1, .inl (kI, 300, .inl (fun _ => 0))), (q2, .inl (kI, 300, .inl (fun _ => 0))), (q3, .inl (kI, 300, .inl (fun _ => 0))), (q4, .inl (kI, 300, .inl (fun _ => 0))), (q5, .inl (kI, 300, .inl (fun _ => 0)))] H := hP
  have hD : va_D A [(h, .inr (4, [.ref q0, .ref q1, .ref q2, .ref q3, .ref q4, .null, .null, .null, .null, .null, .null, .null, .int 0])), (q0, .inl (kI, 300, .inl (fun _ => 0))), (q1, .inl (kI, 300, .inl (fun _ => 0))), (q2, .inl (kI, 300, .inl (fun _ => 0))), (q3, .inl (kI, 300, .inl (fun _ => 0))), (q4, .inl (kI, 300, .inl (fun _ => 0))), (q5, .inl (kI, 300, .inl (fun _ => 0)))] := hD
  refine va_putF (D := D) (ci := 4) (v := .ref q5) (ty := fy_q 5) (C := "RightsLimit$Requests") (T := fT_q) (N := 13) hx hb hG fi_q fy_q fo_q fn_q hown hK hP hD hS 0 rfl rfl 5 (by decide) (hG _ wd_127) (fun _ h9 => h9) rfl hnm rfl (fo_q 5 (by decide)) rfl rfl (Nat.le_of_ble_eq_true rfl) d_q_init_55 (fun H locs hP hD hS => ?_)
  have hP : va_P D rl_cl [(h, .inr (4, [.ref q0, .ref q1, .ref q2, .ref q3, .ref q4, .ref q5, .null, .null, .null, .null, .null, .null, .int 0])), (q0, .inl (kI, 300, .inl (fun _ => 0))), (q1, .inl (kI, 300, .inl (fun _ => 0))), (q2, .inl (kI, 300, .inl (fun _ => 0))), (q3, .inl (kI, 300, .inl (fun _ => 0))), (q4, .inl (kI, 300, .inl (fun _ => 0))), (q5, .inl (kI, 300, .inl (fun _ => 0)))] H := hP
  have hD : va_D A [(h, .inr (4, [.ref q0, .ref q1, .ref q2, .ref q3, .ref q4, .ref q5, .null, .null, .null, .null, .null, .null, .int 0])), (q0, .inl (kI, 300, .inl (fun _ => 0))), (q1, .inl (kI, 300, .inl (fun _ => 0))), (q2, .inl (kI, 300, .inl (fun _ => 0))), (q3, .inl (kI, 300, .inl (fun _ => 0))), (q4, .inl (kI, 300, .inl (fun _ => 0))), (q5, .inl (kI, 300, .inl (fun _ => 0)))] := hD
  refine lv_aload_n hx hb d_q_init_58 rfl (lv_at hl 0 rfl) ?_
  refine lv_sipush (v := 300) hx hb d_q_init_59 (by decide) ?_
  refine rl_newa (atype := .int) (ty := .int) (N' := 300) (a0 := (300, .inl (fun _ => 0))) hx hb (hG _ wd_58) rfl (fun _ h9 => by cases h9) 0 rfl hK hP hD hS hA (fun _ => rfl) (by decide) (by decide) (by decide) (Nat.le_of_ble_eq_true rfl) (Nat.le_of_ble_eq_true rfl) d_q_init_62 (fun q6 H hP hD hS => ?_)
  have hP : va_P D rl_cl [(h, .inr (4, [.ref q0, .ref q1, .ref q2, .ref q3, .ref q4, .ref q5, .null, .null, .null, .null, .null, .null, .int 0])), (q0, .inl (kI, 300, .inl (fun _ => 0))), (q1, .inl (kI, 300, .inl (fun _ => 0))), (q2, .inl (kI, 300, .inl (fun _ => 0))), (q3, .inl (kI, 300, .inl (fun _ => 0))), (q4, .inl (kI, 300, .inl (fun _ => 0))), (q5, .inl (kI, 300, .inl (fun _ => 0))), (q6, .inl (kI, 300, .inl (fun _ => 0)))] H := hP
  have hD : va_D A [(h, .inr (4, [.ref q0, .ref q1, .ref q2, .ref q3, .ref q4, .ref q5, .null, .null, .null, .null, .null, .null, .int 0])), (q0, .inl (kI, 300, .inl (fun _ => 0))), (q1, .inl (kI, 300, .inl (fun _ => 0))), (q2, .inl (kI, 300, .inl (fun _ => 0))), (q3, .inl (kI, 300, .inl (fun _ => 0))), (q4, .inl (kI, 300, .inl (fun _ => 0))), (q5, .inl (kI, 300, .inl (fun _ => 0))), (q6, .inl (kI, 300, .inl (fun _ => 0)))] := hD
  refine va_putF (D := D) (ci := 4) (v := .ref q6) (ty := fy_q 6) (C := "RightsLimit$Requests") (T := fT_q) (N := 13) hx hb hG fi_q fy_q fo_q fn_q hown hK hP hD hS 0 rfl rfl 6 (by decide) (hG _ wd_129) (fun _ h9 => h9) rfl hnm rfl (fo_q 6 (by decide)) rfl rfl (Nat.le_of_ble_eq_true rfl) d_q_init_64 (fun H locs hP hD hS => ?_)
  have hP : va_P D rl_cl [(h, .inr (4, [.ref q0, .ref q1, .ref q2, .ref q3, .ref q4, .ref q5, .ref q6, .null, .null, .null, .null, .null, .int 0])), (q0, .inl (kI, 300, .inl (fun _ => 0))), (q1, .inl (kI, 300, .inl (fun _ => 0))), (q2, .inl (kI, 300, .inl (fun _ => 0))), (q3, .inl (kI, 300, .inl (fun _ => 0))), (q4, .inl (kI, 300, .inl (fun _ => 0))), (q5, .inl (kI, 300, .inl (fun _ => 0))), (q6, .inl (kI, 300, .inl (fun _ => 0)))] H := hP
  have hD : va_D A [(h, .inr (4, [.ref q0, .ref q1, .ref q2, .ref q3, .ref q4, .ref q5, .ref q6, .null, .null, .null, .null, .null, .int 0])), (q0, .inl (kI, 300, .inl (fun _ => 0))), (q1, .inl (kI, 300, .inl (fun _ => 0))), (q2, .inl (kI, 300, .inl (fun _ => 0))), (q3, .inl (kI, 300, .inl (fun _ => 0))), (q4, .inl (kI, 300, .inl (fun _ => 0))), (q5, .inl (kI, 300, .inl (fun _ => 0))), (q6, .inl (kI, 300, .inl (fun _ => 0)))] := hD
  refine lv_aload_n hx hb d_q_init_67 rfl (lv_at hl 0 rfl) ?_
  refine lv_sipush (v := 300) hx hb d_q_init_68 (by decide) ?_
  refine rl_newa (atype := .int) (ty := .int) (N' := 300) (a0 := (300, .inl (fun _ => 0))) hx hb (hG _ wd_58) rfl (fun _ h9 => by cases h9) 0 rfl hK hP hD hS hA (fun _ => rfl) (by decide) (by decide) (by decide) (Nat.le_of_ble_eq_true rfl) (Nat.le_of_ble_eq_true rfl) d_q_init_71 (fun q7 H hP hD hS => ?_)
  have hP : va_P D rl_cl [(h, .inr (4, [.ref q0, .ref q1, .ref q2, .ref q3, .ref q4, .ref q5, .ref q6, .null, .null, .null, .null, .null, .int 0])), (q0, .inl (kI, 300, .inl (fun _ => 0))), (q1, .inl (kI, 300, .inl (fun _ => 0))), (q2, .inl (kI, 300, .inl (fun _ => 0))), (q3, .inl (kI, 300, .inl (fun _ => 0))), (q4, .inl (kI, 300, .inl (fun _ => 0))), (q5, .inl (kI, 300, .inl (fun _ => 0))), (q6, .inl (kI, 300, .inl (fun _ => 0))), (q7, .inl (kI, 300, .inl (fun _ => 0)))] H := hP
  have hD : va_D A [(h, .inr (4, [.ref q0, .ref q1, .ref q2, .ref q3, .ref q4, .ref q5, .ref q6, .null, .null, .null, .null, .null, .int 0])), (q0, .inl (kI, 300, .inl (fun _ => 0))), (q1, .inl (kI, 300, .inl (fun _ => 0))), (q2, .inl (kI, 300, .inl (fun _ => 0))), (q3, .inl (kI, 300, .inl (fun _ => 0))), (q4, .inl (kI, 300, .inl (fun _ => 0))), (q5, .inl (kI, 300, .inl (fun _ => 0))), (q6, .inl (kI, 300, .inl (fun _ => 0))), (q7, .inl (kI, 300, .inl (fun _ => 0)))] := hD
  refine va_putF (D := D) (ci := 4) (v := .ref q7) (ty := fy_q 7) (C := "RightsLimit$Requests") (T := fT_q) (N := 13) hx hb hG fi_q fy_q fo_q fn_q hown hK hP hD hS 0 rfl rfl 7 (by decide) (hG _ wd_131) (fun _ h9 => h9) rfl hnm rfl (fo_q 7 (by decide)) rfl rfl (Nat.le_of_ble_eq_true rfl) d_q_init_73 (fun H locs hP hD hS => ?_)
  have hP : va_P D rl_cl [(h, .inr (4, [.ref q0, .ref q1, .ref q2, .ref q3, .ref q4, .ref q5, .ref q6, .ref q7, .null, .null, .null, .null, .int 0])), (q0, .inl (kI, 300, .inl (fun _ => 0))), (q1, .inl (kI, 300, .inl (fun _ => 0))), (q2, .inl (kI, 300, .inl (fun _ => 0))), (q3, .inl (kI, 300, .inl (fun _ => 0))), (q4, .inl (kI, 300, .inl (fun _ => 0))), (q5, .inl (kI, 300, .inl (fun _ => 0))), (q6, .inl (kI, 300, .inl (fun _ => 0))), (q7, .inl (kI, 300, .inl (fun _ => 0)))] H := hP
  have hD : va_D A [(h, .inr (4, [.ref q0, .ref q1, .ref q2, .ref q3, .ref q4, .ref q5, .ref q6, .ref q7, .null, .null, .null, .null, .int 0])), (q0, .inl (kI, 300, .inl (fun _ => 0))), (q1, .inl (kI, 300, .inl (fun _ => 0))), (q2, .inl (kI, 300, .inl (fun _ => 0))), (q3, .inl (kI, 300, .inl (fun _ => 0))), (q4, .inl (kI, 300, .inl (fun _ => 0))), (q5, .inl (kI, 300, .inl (fun _ => 0))), (q6, .inl (kI, 300, .inl (fun _ => 0))), (q7, .inl (kI, 300, .inl (fun _ => 0)))] := hD
  refine lv_aload_n hx hb d_q_init_76 rfl (lv_at hl 0 rfl) ?_
  refine lv_sipush (v := 300) hx hb d_q_init_77 (by decide) ?_
  refine rl_newa (atype := .int) (ty := .int) (N' := 300) (a0 := (300, .inl (fun _ => 0))) hx hb (hG _ wd_58) rfl (fun _ h9 => by cases h9) 0 rfl hK hP hD hS hA (fun _ => rfl) (by decide) (by decide) (by decide) (Nat.le_of_ble_eq_true rfl) (Nat.le_of_ble_eq_true rfl) d_q_init_80 (fun q8 H hP hD hS => ?_)
  have hP : va_P D rl_cl [(h, .inr (4, [.ref q0, .ref q1, .ref q2, .ref q3, .ref q4, .ref q5, .ref q6, .ref q7, .null, .null, .null, .null, .int 0])), (q0, .inl (kI, 300, .inl (fun _ => 0))), (q1, .inl (kI, 300, .inl (fun _ => 0))), (q2, .inl (kI, 300, .inl (fun _ => 0))), (q3, .inl (kI, 300, .inl (fun _ => 0))), (q4, .inl (kI, 300, .inl (fun _ => 0))), (q5, .inl (kI, 300, .inl (fun _ => 0))), (q6, .inl (kI, 300, .inl (fun _ => 0))), (q7, .inl (kI, 300, .inl (fun _ => 0))), (q8, .inl (kI, 300, .inl (fun _ => 0)))] H := hP
  have hD : va_D A [(h, .inr (4, [.ref q0, .ref q1, .ref q2, .ref q3, .ref q4, .ref q5, .ref q6, .ref q7, .null, .null, .null, .null, .int 0])), (q0, .inl (kI, 300, .inl (fun _ => 0))), (q1, .inl (kI, 300, .inl (fun _ => 0))), (q2, .inl (kI, 300, .inl (fun _ => 0))), (q3, .inl (kI, 300, .inl (fun _ => 0))), (q4, .inl (kI, 300, .inl (fun _ => 0))), (q5, .inl (kI, 300, .inl (fun _ => 0))), (q6, .inl (kI, 300, .inl (fun _ => 0))), (q7, .inl (kI, 300, .inl (fun _ => 0))), (q8, .inl (kI, 300, .inl (fun _ => 0)))] := hD
  refine va_putF (D := D) (ci := 4) (v := .ref q8) (ty := fy_q 8) (C := "RightsLimit$Requests") (T := fT_q) (N := 13) hx hb hG fi_q fy_q fo_q fn_q hown hK hP hD hS 0 rfl rfl 8 (by decide) (hG _ wd_132) (fun _ h9 => h9) rfl hnm rfl (fo_q 8 (by decide)) rfl rfl (Nat.le_of_ble_eq_true rfl) d_q_init_82 (fun H locs hP hD hS => ?_)
  have hP : va_P D rl_cl [(h, .inr (4, [.ref q0, .ref q1, .ref q2, .ref q3, .ref q4, .ref q5, .ref q6, .ref q7, .ref q8, .null, .null, .null, .int 0])), (q0, .inl (kI, 300, .inl (fun _ => 0))), (q1, .inl (kI, 300, .inl (fun _ => 0))), (q2, .inl (kI, 300, .inl (fun _ => 0))), (q3, .inl (kI, 300, .inl (fun _ => 0))), (q4, .inl (kI, 300, .inl (fun _ => 0))), (q5, .inl (kI, 300, .inl (fun _ => 0))), (q6, .inl (kI, 300, .inl (fun _ => 0))), (q7, .inl (kI, 300, .inl (fun _ => 0))), (q8, .inl (kI, 300, .inl (fun _ => 0)))] H := hP
  have hD : va_D A [(h, .inr (4, [.ref q0, .ref q1, .ref q2, .ref q3, .ref q4, .ref q5, .ref q6, .ref q7, .ref q8, .null, .null, .null, .int 0])), (q0, .inl (kI, 300, .inl (fun _ => 0))), (q1, .inl (kI, 300, .inl (fun _ => 0))), (q2, .inl (kI, 300, .inl (fun _ => 0))), (q3, .inl (kI, 300, .inl (fun _ => 0))), (q4, .inl (kI, 300, .inl (fun _ => 0))), (q5, .inl (kI, 300, .inl (fun _ => 0))), (q6, .inl (kI, 300, .inl (fun _ => 0))), (q7, .inl (kI, 300, .inl (fun _ => 0))), (q8, .inl (kI, 300, .inl (fun _ => 0)))] := hD
  refine lv_aload_n hx hb d_q_init_85 rfl (lv_at hl 0 rfl) ?_
  refine lv_sipush (v := 300) hx hb d_q_init_86 (by decide) ?_
  refine rl_newa (atype := .int) (ty := .int) (N' := 300) (a0 := (300, .inl (fun _ => 0))) hx hb (hG _ wd_58) rfl (fun _ h9 => by cases h9) 0 rfl hK hP hD hS hA (fun _ => rfl) (by decide) (by decide) (by decide) (Nat.le_of_ble_eq_true rfl) (Nat.le_of_ble_eq_true rfl) d_q_init_89 (fun q9 H hP hD hS => ?_)
  have hP : va_P D rl_cl [(h, .inr (4, [.ref q0, .ref q1, .ref q2, .ref q3, .ref q4, .ref q5, .ref q6, .ref q7, .ref q8, .null, .null, .null, .int 0])), (q0, .inl (kI, 300, .inl (fun _ => 0))), (q1, .inl (kI, 300, .inl (fun _ => 0))), (q2, .inl (kI, 300, .inl (fun _ => 0))), (q3, .inl (kI, 300, .inl (fun _ => 0))), (q4, .inl (kI, 300, .inl (fun _ => 0))), (q5, .inl (kI, 300, .inl (fun _ => 0))), (q6, .inl (kI, 300, .inl (fun _ => 0))), (q7, .inl (kI, 300, .inl (fun _ => 0))), (q8, .inl (kI, 300, .inl (fun _ => 0))), (q9, .inl (kI, 300, .inl (fun _ => 0)))] H := hP
  have hD : va_D A [(h, .inr (4, [.ref q0, .ref q1, .ref q2, .ref q3, .ref q4, .ref q5, .ref q6, .ref q7, .ref q8, .null, .null, .null, .int 0])), (q0, .inl (kI, 300, .inl (fun _ => 0))), (q1, .inl (kI, 300, .inl (fun _ => 0))), (q2, .inl (kI, 300, .inl (fun _ => 0))), (q3, .inl (kI, 300, .inl (fun _ => 0))), (q4, .inl (kI, 300, .inl (fun _ => 0))), (q5, .inl (kI, 300, .inl (fun _ => 0))), (q6, .inl (kI, 300, .inl (fun _ => 0))), (q7, .inl (kI, 300, .inl (fun _ => 0))), (q8, .inl (kI, 300, .inl (fun _ => 0))), (q9, .inl (kI, 300, .inl (fun _ => 0)))] := hD
  refine va_putF (D := D) (ci := 4) (v := .ref q9) (ty := fy_q 9) (C := "RightsLimit$Requests") (T := fT_q) (N := 13) hx hb hG fi_q fy_q fo_q fn_q hown hK hP hD hS 0 rfl rfl 9 (by decide) (hG _ wd_134) (fun _ h9 => h9) rfl hnm rfl (fo_q 9 (by decide)) rfl rfl (Nat.le_of_ble_eq_true rfl) d_q_init_91 (fun H locs hP hD hS => ?_)
  have hP : va_P D rl_cl [(h, .inr (4, [.ref q0, .ref q1, .ref q2, .ref q3, .ref q4, .ref q5, .ref q6, .ref q7, .ref q8, .ref q9, .null, .null, .int 0])), (q0, .inl (kI, 300, .inl (fun _ => 0))), (q1, .inl (kI, 300, .inl (fun _ => 0))), (q2, .inl (kI, 300, .inl (fun _ => 0))), (q3, .inl (kI, 300, .inl (fun _ => 0))), (q4, .inl (kI, 300, .inl (fun _ => 0))), (q5, .inl (kI, 300, .inl (fun _ => 0))), (q6, .inl (kI, 300, .inl (fun _ => 0))), (q7, .inl (kI, 300, .inl (fun _ => 0))), (q8, .inl (kI, 300, .inl (fun _ => 0))), (q9, .inl (kI, 300, .inl (fun _ => 0)))] H := hP
  have hD : va_D A [(h, .inr (4, [.ref q0, .ref q1, .ref q2, .ref q3, .ref q4, .ref q5, .ref q6, .ref q7, .ref q8, .ref q9, .null, .null, .int 0])), (q0, .inl (kI, 300, .inl (fun _ => 0))), (q1, .inl (kI, 300, .inl (fun _ => 0))), (q2, .inl (kI, 300, .inl (fun _ => 0))), (q3, .inl (kI, 300, .inl (fun _ => 0))), (q4, .inl (kI, 300, .inl (fun _ => 0))), (q5, .inl (kI, 300, .inl (fun _ => 0))), (q6, .inl (kI, 300, .inl (fun _ => 0))), (q7, .inl (kI, 300, .inl (fun _ => 0))), (q8, .inl (kI, 300, .inl (fun _ => 0))), (q9, .inl (kI, 300, .inl (fun _ => 0)))] := hD
  refine lv_aload_n hx hb d_q_init_94 rfl (lv_at hl 0 rfl) ?_
  refine lv_sipush (v := 300) hx hb d_q_init_95 (by decide) ?_
  refine rl_newa (atype := .int) (ty := .int) (N' := 300) (a0 := (300, .inl (fun _ => 0))) hx hb (hG _ wd_58) rfl (fun _ h9 => by cases h9) 0 rfl hK hP hD hS hA (fun _ => rfl) (by decide) (by decide) (by decide) (Nat.le_of_ble_eq_true rfl) (Nat.le_of_ble_eq_true rfl) d_q_init_98 (fun q10 H hP hD hS => ?_)
  have hP : va_P D rl_cl [(h, .inr (4, [.ref q0, .ref q1, .ref q2, .ref q3, .ref q4, .ref q5, .ref q6, .ref q7, .ref q8, .ref q9, .null, .null, .int 0])), (q0, .inl (kI, 300, .inl (fun _ => 0))), (q1, .inl (kI, 300, .inl (fun _ => 0))), (q2, .inl (kI, 300, .inl (fun _ => 0))), (q3, .inl (kI, 300, .inl (fun _ => 0))), (q4, .inl (kI, 300, .inl (fun _ => 0))), (q5, .inl (kI, 300, .inl (fun _ => 0))), (q6, .inl (kI, 300, .inl (fun _ => 0))), (q7, .inl (kI, 300, .inl (fun _ => 0))), (q8, .inl (kI, 300, .inl (fun _ => 0))), (q9, .inl (kI, 300, .inl (fun _ => 0))), (q10, .inl (kI, 300, .inl (fun _ => 0)))] H := hP
  have hD : va_D A [(h, .inr (4, [.ref q0, .ref q1, .ref q2, .ref q3, .ref q4, .ref q5, .ref q6, .ref q7, .ref q8, .ref q9, .null, .null, .int 0])), (q0, .inl (kI, 300, .inl (fun _ => 0))), (q1, .inl (kI, 300, .inl (fun _ => 0))), (q2, .inl (kI, 300, .inl (fun _ => 0))), (q3, .inl (kI, 300, .inl (fun _ => 0))), (q4, .inl (kI, 300, .inl (fun _ => 0))), (q5, .inl (kI, 300, .inl (fun _ => 0))), (q6, .inl (kI, 300, .inl (fun _ => 0))), (q7, .inl (kI, 300, .inl (fun _ => 0))), (q8, .inl (kI, 300, .inl (fun _ => 0))), (q9, .inl (kI, 300, .inl (fun _ => 0))), (q10, .inl (kI, 300, .inl (fun _ => 0)))] := hD
  refine va_putF (D := D) (ci := 4) (v := .ref q10) (ty := fy_q 10) (C := "RightsLimit$Requests") (T := fT_q) (N := 13) hx hb hG fi_q fy_q fo_q fn_q hown hK hP hD hS 0 rfl rfl 10 (by decide) (hG _ wd_136) (fun _ h9 => h9) rfl hnm rfl (fo_q 10 (by decide)) rfl rfl (Nat.le_of_ble_eq_true rfl) d_q_init_100 (fun H locs hP hD hS => ?_)
  have hP : va_P D rl_cl [(h, .inr (4, [.ref q0, .ref q1, .ref q2, .ref q3, .ref q4, .ref q5, .ref q6, .ref q7, .ref q8, .ref q9, .ref q10, .null, .int 0])), (q0, .inl (kI, 300, .inl (fun _ => 0))), (q1, .inl (kI, 300, .inl (fun _ => 0))), (q2, .inl (kI, 300, .inl (fun _ => 0))), (q3, .inl (kI, 300, .inl (fun _ => 0))), (q4, .inl (kI, 300, .inl (fun _ => 0))), (q5, .inl (kI, 300, .inl (fun _ => 0))), (q6, .inl (kI, 300, .inl (fun _ => 0))), (q7, .inl (kI, 300, .inl (fun _ => 0))), (q8, .inl (kI, 300, .inl (fun _ => 0))), (q9, .inl (kI, 300, .inl (fun _ => 0))), (q10, .inl (kI, 300, .inl (fun _ => 0)))] H := hP
  have hD : va_D A [(h, .inr (4, [.ref q0, .ref q1, .ref q2, .ref q3, .ref q4, .ref q5, .ref q6, .ref q7, .ref q8, .ref q9, .ref q10, .null, .int 0])), (q0, .inl (kI, 300, .inl (fun _ => 0))), (q1, .inl (kI, 300, .inl (fun _ => 0))), (q2, .inl (kI, 300, .inl (fun _ => 0))), (q3, .inl (kI, 300, .inl (fun _ => 0))), (q4, .inl (kI, 300, .inl (fun _ => 0))), (q5, .inl (kI, 300, .inl (fun _ => 0))), (q6, .inl (kI, 300, .inl (fun _ => 0))), (q7, .inl (kI, 300, .inl (fun _ => 0))), (q8, .inl (kI, 300, .inl (fun _ => 0))), (q9, .inl (kI, 300, .inl (fun _ => 0))), (q10, .inl (kI, 300, .inl (fun _ => 0)))] := hD
  refine lv_aload_n hx hb d_q_init_103 rfl (lv_at hl 0 rfl) ?_
  refine lv_sipush (v := 300) hx hb d_q_init_104 (by decide) ?_
  refine rl_newa (atype := .int) (ty := .int) (N' := 300) (a0 := (300, .inl (fun _ => 0))) hx hb (hG _ wd_58) rfl (fun _ h9 => by cases h9) 0 rfl hK hP hD hS hA (fun _ => rfl) (by decide) (by decide) (by decide) (Nat.le_of_ble_eq_true rfl) (Nat.le_of_ble_eq_true rfl) d_q_init_107 (fun q11 H hP hD hS => ?_)
  have hP : va_P D rl_cl [(h, .inr (4, [.ref q0, .ref q1, .ref q2, .ref q3, .ref q4, .ref q5, .ref q6, .ref q7, .ref q8, .ref q9, .ref q10, .null, .int 0])), (q0, .inl (kI, 300, .inl (fun _ => 0))), (q1, .inl (kI, 300, .inl (fun _ => 0))), (q2, .inl (kI, 300, .inl (fun _ => 0))), (q3, .inl (kI, 300, .inl (fun _ => 0))), (q4, .inl (kI, 300, .inl (fun _ => 0))), (q5, .inl (kI, 300, .inl (fun _ => 0))), (q6, .inl (kI, 300, .inl (fun _ => 0))), (q7, .inl (kI, 300, .inl (fun _ => 0))), (q8, .inl (kI, 300, .inl (fun _ => 0))), (q9, .inl (kI, 300, .inl (fun _ => 0))), (q10, .inl (kI, 300, .inl (fun _ => 0))), (q11, .inl (kI, 300, .inl (fun _ => 0)))] H := hP
  have hD : va_D A [(h, .inr (4, [.ref q0, .ref q1, .ref q2, .ref q3, .ref q4, .ref q5, .ref q6, .ref q7, .ref q8, .ref q9, .ref q10, .null, .int 0])), (q0, .inl (kI, 300, .inl (fun _ => 0))), (q1, .inl (kI, 300, .inl (fun _ => 0))), (q2, .inl (kI, 300, .inl (fun _ => 0))), (q3, .inl (kI, 300, .inl (fun _ => 0))), (q4, .inl (kI, 300, .inl (fun _ => 0))), (q5, .inl (kI, 300, .inl (fun _ => 0))), (q6, .inl (kI, 300, .inl (fun _ => 0))), (q7, .inl (kI, 300, .inl (fun _ => 0))), (q8, .inl (kI, 300, .inl (fun _ => 0))), (q9, .inl (kI, 300, .inl (fun _ => 0))), (q10, .inl (kI, 300, .inl (fun _ => 0))), (q11, .inl (kI, 300, .inl (fun _ => 0)))] := hD
  refine va_putF (D := D) (ci := 4) (v := .ref q11) (ty := fy_q 11) (C := "RightsLimit$Requests") (T := fT_q) (N := 13) hx hb hG fi_q fy_q fo_q fn_q hown hK hP hD hS 0 rfl rfl 11 (by decide) (hG _ wd_138) (fun _ h9 => h9) rfl hnm rfl (fo_q 11 (by decide)) rfl rfl (Nat.le_of_ble_eq_true rfl) d_q_init_109 (fun H locs hP hD hS => ?_)
  have hP : va_P D rl_cl [(h, .inr (4, [.ref q0, .ref q1, .ref q2, .ref q3, .ref q4, .ref q5, .ref q6, .ref q7, .ref q8, .ref q9, .ref q10, .ref q11, .int 0])), (q0, .inl (kI, 300, .inl (fun _ => 0))), (q1, .inl (kI, 300, .inl (fun _ => 0))), (q2, .inl (kI, 300, .inl (fun _ => 0))), (q3, .inl (kI, 300, .inl (fun _ => 0))), (q4, .inl (kI, 300, .inl (fun _ => 0))), (q5, .inl (kI, 300, .inl (fun _ => 0))), (q6, .inl (kI, 300, .inl (fun _ => 0))), (q7, .inl (kI, 300, .inl (fun _ => 0))), (q8, .inl (kI, 300, .inl (fun _ => 0))), (q9, .inl (kI, 300, .inl (fun _ => 0))), (q10, .inl (kI, 300, .inl (fun _ => 0))), (q11, .inl (kI, 300, .inl (fun _ => 0)))] H := hP
  have hD : va_D A [(h, .inr (4, [.ref q0, .ref q1, .ref q2, .ref q3, .ref q4, .ref q5, .ref q6, .ref q7, .ref q8, .ref q9, .ref q10, .ref q11, .int 0])), (q0, .inl (kI, 300, .inl (fun _ => 0))), (q1, .inl (kI, 300, .inl (fun _ => 0))), (q2, .inl (kI, 300, .inl (fun _ => 0))), (q3, .inl (kI, 300, .inl (fun _ => 0))), (q4, .inl (kI, 300, .inl (fun _ => 0))), (q5, .inl (kI, 300, .inl (fun _ => 0))), (q6, .inl (kI, 300, .inl (fun _ => 0))), (q7, .inl (kI, 300, .inl (fun _ => 0))), (q8, .inl (kI, 300, .inl (fun _ => 0))), (q9, .inl (kI, 300, .inl (fun _ => 0))), (q10, .inl (kI, 300, .inl (fun _ => 0))), (q11, .inl (kI, 300, .inl (fun _ => 0)))] := hD
  refine lv_aload_n hx hb d_q_init_112 rfl (lv_at hl 0 rfl) ?_
  refine lv_iconst (v := 0) hx hb d_q_init_113 (by decide) ?_
  refine va_put (D := D) (ci := 4) (v := .int 0) (ty := fy_q 12) (C := "RightsLimit$Requests") (T := fT_q) (N := 13) hx hb hG fi_q fy_q fo_q fn_q hown hK hP hD hS 0 rfl rfl 12 (by decide) (hG _ wd_140) (fun _ h9 => h9) rfl (fo_q 12 (by decide)) rfl rfl (Nat.le_of_ble_eq_true rfl) d_q_init_114 (fun H locs hP hD hS => ?_)
  have hP : va_P D rl_cl [(h, .inr (4, [.ref q0, .ref q1, .ref q2, .ref q3, .ref q4, .ref q5, .ref q6, .ref q7, .ref q8, .ref q9, .ref q10, .ref q11, .int 0])), (q0, .inl (kI, 300, .inl (fun _ => 0))), (q1, .inl (kI, 300, .inl (fun _ => 0))), (q2, .inl (kI, 300, .inl (fun _ => 0))), (q3, .inl (kI, 300, .inl (fun _ => 0))), (q4, .inl (kI, 300, .inl (fun _ => 0))), (q5, .inl (kI, 300, .inl (fun _ => 0))), (q6, .inl (kI, 300, .inl (fun _ => 0))), (q7, .inl (kI, 300, .inl (fun _ => 0))), (q8, .inl (kI, 300, .inl (fun _ => 0))), (q9, .inl (kI, 300, .inl (fun _ => 0))), (q10, .inl (kI, 300, .inl (fun _ => 0))), (q11, .inl (kI, 300, .inl (fun _ => 0)))] H := hP
  have hD : va_D A [(h, .inr (4, [.ref q0, .ref q1, .ref q2, .ref q3, .ref q4, .ref q5, .ref q6, .ref q7, .ref q8, .ref q9, .ref q10, .ref q11, .int 0])), (q0, .inl (kI, 300, .inl (fun _ => 0))), (q1, .inl (kI, 300, .inl (fun _ => 0))), (q2, .inl (kI, 300, .inl (fun _ => 0))), (q3, .inl (kI, 300, .inl (fun _ => 0))), (q4, .inl (kI, 300, .inl (fun _ => 0))), (q5, .inl (kI, 300, .inl (fun _ => 0))), (q6, .inl (kI, 300, .inl (fun _ => 0))), (q7, .inl (kI, 300, .inl (fun _ => 0))), (q8, .inl (kI, 300, .inl (fun _ => 0))), (q9, .inl (kI, 300, .inl (fun _ => 0))), (q10, .inl (kI, 300, .inl (fun _ => 0))), (q11, .inl (kI, 300, .inl (fun _ => 0)))] := hD
  exact W.vret hx hb hr (fun t ht hW => ⟨⟨(fun k => match k with | 0 => q0 | 1 => q1 | 2 => q2 | 3 => q3 | 4 => q4 | 5 => q5 | 6 => q6 | 7 => q7 | 8 => q8 | 9 => q9 | 10 => q10 | 11 => q11 | _ => 0), rfl, trivial, ⟨by rw [ht]; exact hP, hD⟩⟩, hS.F ht⟩) hS.2.2 d_q_init_117
def rl_nw : List Cond := [.methodLinkNest "RightsLimit" 11 ⟨"RightsLimit$Titles", "<init>", "()V"⟩ "RightsLimit", .methodLinkNest "RightsLimit" 18 ⟨"RightsLimit$Limits", "<init>", "()V"⟩ "RightsLimit", .methodLinkNest "RightsLimit" 25 ⟨"RightsLimit$Licences", "<init>", "()V"⟩ "RightsLimit", .methodLinkNest "RightsLimit" 32 ⟨"RightsLimit$Requests", "<init>", "()V"⟩ "RightsLimit"]
set_option maxHeartbeats 4000000 in
set_option maxRecDepth 100000 in
theorem k_x_init (l : Launch) (D : va_G) (h : Nat) (kI kZ : ClassId) (sz : Nat) : rl_Cv (S := Nat → Nat) l ⟨"RightsLimit", "<init>", "()V"⟩ (Cond.code ⟨"RightsLimit", "<init>", "()V"⟩ prog_1_method_1_code 1 none :: rl_G) { frames := 2, cells := 31, slots := 4679, locals := 32 } D rl_cl (rl_tys kI kZ) rl_nw [.ref h] [(h, .inr (0, [.null, .null, .null, .null, .null, .null, .int 0, .int 0]))] sz (fun u : Nat → Nat => u 0 = h) (fun u => rl_w u kI kZ rl_F0) 31 4679 := by
  refine rl_metv (cc := prog_1_method_1_code) (maxL := 1) (ret := none) (by decide) rfl (Nat.le_of_ble_eq_true rfl) ?_
  intro p e s m below meth c A ls hx hb hr hml hown hts hlocks hnm hP hK hD hS hA hN hl
  have hown : s.vm.findClass "RightsLimit" = some m.cls := hown
  have hG : ∀ x ∈ rl_G, x.before _ s = true := fun x h => hts x (List.mem_cons_of_mem _ h)
  have hl : lv_has ls 1 [(0, .ref h)] := hl
  have hP : va_P D rl_cl [(h, .inr (0, [.null, .null, .null, .null, .null, .null, .int 0, .int 0]))] s.heap := hP
  have hD : va_D A [(h, .inr (0, [.null, .null, .null, .null, .null, .null, .int 0, .int 0]))] := hD
  refine lv_aload_n hx hb d_x_init_0 rfl (lv_at hl 0 rfl) ?_
  refine W.objInit hx hb hown (hG _ wd_29) (hG _ wd_30) (hG _ wd_31) rfl (by rw [hml]; exact hl.1) rfl d_x_init_1 (Nat.le_of_ble_eq_true rfl) (Nat.le_of_ble_eq_true rfl) ?_
  refine W.eq (g2 := F0 m 4 ls []) rfl ?_
  refine lv_aload_n hx hb d_x_init_4 rfl (lv_at hl 0 rfl) ?_
  refine va_new (ci := 1) (fs := [.null, .null, .null, .null, .int 0]) (C := "RightsLimit$Titles") (T := fT_t) (N := 5) hx hb hG fi_t fy_t fo_t hown (hG _ wd_32) (hG _ wd_33) (hG _ wd_15) hK hP hD hS hA rfl (by decide +kernel) (Nat.le_of_ble_eq_true rfl) (Nat.le_of_ble_eq_true rfl) d_x_init_5 (fun o1 H hP hD hS => ?_)
  have hP := rl_P.swap hP
  have hD := rl_D.swap hD
  have hP : va_P D rl_cl [(o1, .inr (1, [.null, .null, .null, .null, .int 0])), (h, .inr (0, [.null, .null, .null, .null, .null, .null, .int 0, .int 0]))] H := hP
  have hD : va_D A [(o1, .inr (1, [.null, .null, .null, .null, .int 0])), (h, .inr (0, [.null, .null, .null, .null, .null, .null, .int 0, .int 0]))] := hD
  refine lv_dup hx hb d_x_init_8 rfl ?_
  refine rl_callv (w1 := [(o1, .inr (1, [.null, .null, .null, .null, .int 0]))]) (w2 := [(h, .inr (0, [.null, .null, .null, .null, .null, .null, .int 0, .int 0]))]) hP hD hS hA (va_runIN (As := []) (rest := [.ref o1, .ref h]) ⟨hx, hb, hml, hown, hG⟩ (k_t_init l D o1 kI kZ _) ⟨va_cnB 0 hG (rl_gI wd_36) rfl rfl rfl (hN _ (List.mem_of_getElem? (i := 0) rfl)) (hG _ wd_15) (by decide +kernel) ⟨Nat.le_of_ble_eq_true rfl, Nat.le_of_ble_eq_true rfl⟩, rfl, (hG _ wd_35)⟩ (rl_B.pre rl_nw0 (rl_P.l (w1 := [(o1, .inr (1, [.null, .null, .null, .null, .int 0]))]) hP) hK (rl_D.l (w1 := [(o1, .inr (1, [.null, .null, .null, .null, .int 0]))]) hD) rl_N0) rfl rfl hl.1 rfl (lv_room (Nat.le_of_ble_eq_true rfl)) d_x_init_9 ⟨Nat.le_of_ble_eq_true rfl, Nat.le_of_ble_eq_true rfl⟩) (fun b1 H locs hw hP hD hS => ?_)
  have hP : va_P D rl_cl [(o1, .inr (1, [.ref (b1 0), .ref (b1 1), .ref (b1 2), .ref (b1 3), .int 0])), (b1 0, .inl (kI, 50, .inl (fun _ => 0))), (b1 1, .inl (kZ, 50, .inl (fun _ => 0))), (b1 2, .inl (kI, 50, .inl (fun _ => 0))), (b1 3, .inl (kI, 50, .inl (fun _ => 0))), (h, .inr (0, [.null, .null, .null, .null, .null, .null, .int 0, .int 0]))] H := hP
  have hD : va_D A [(o1, .inr (1, [.ref (b1 0), .ref (b1 1), .ref (b1 2), .ref (b1 3), .int 0])), (b1 0, .inl (kI, 50, .inl (fun _ => 0))), (b1 1, .inl (kZ, 50, .inl (fun _ => 0))), (b1 2, .inl (kI, 50, .inl (fun _ => 0))), (b1 3, .inl (kI, 50, .inl (fun _ => 0))), (h, .inr (0, [.null, .null, .null, .null, .null, .null, .int 0, .int 0]))] := hD
  refine va_putF (D := D) (ci := 0) (v := .ref o1) (ty := fy_x 0) (C := "RightsLimit") (T := fT_x) (N := 8) hx hb hG fi_x fy_x fo_x fn_x hown hK hP hD hS 5 rfl rfl 0 (by decide) (hG _ wd_168) (fun _ h9 => h9) rfl hnm rfl (fo_x 0 (by decide)) rfl rfl (Nat.le_of_ble_eq_true rfl) d_x_init_12 (fun H locs hP hD hS => ?_)
  have hP : va_P D rl_cl [(o1, .inr (1, [.ref (b1 0), .ref (b1 1), .ref (b1 2), .ref (b1 3), .int 0])), (b1 0, .inl (kI, 50, .inl (fun _ => 0))), (b1 1, .inl (kZ, 50, .inl (fun _ => 0))), (b1 2, .inl (kI, 50, .inl (fun _ => 0))), (b1 3, .inl (kI, 50, .inl (fun _ => 0))), (h, .inr (0, [.ref o1, .null, .null, .null, .null, .null, .int 0, .int 0]))] H := hP
  have hD : va_D A [(o1, .inr (1, [.ref (b1 0), .ref (b1 1), .ref (b1 2), .ref (b1 3), .int 0])), (b1 0, .inl (kI, 50, .inl (fun _ => 0))), (b1 1, .inl (kZ, 50, .inl (fun _ => 0))), (b1 2, .inl (kI, 50, .inl (fun _ => 0))), (b1 3, .inl (kI, 50, .inl (fun _ => 0))), (h, .inr (0, [.ref o1, .null, .null, .null, .null, .null, .int 0, .int 0]))] := hD
  refine lv_aload_n hx hb d_x_init_15 rfl (lv_at hl 0 rfl) ?_
  refine va_new (ci := 2) (fs := [.null, .null, .null, .null, .int 0]) (C := "RightsLimit$Limits") (T := fT_l) (N := 5) hx hb hG fi_l fy_l fo_l hown (hG _ wd_60) (hG _ wd_61) (hG _ wd_16) hK hP hD hS hA rfl (by decide +kernel) (Nat.le_of_ble_eq_true rfl) (Nat.le_of_ble_eq_true rfl) d_x_init_16 (fun o2 H hP hD hS => ?_)
  have hP := rl_P.swap hP
  have hD := rl_D.swap hD
  have hP : va_P D rl_cl [(o2, .inr (2, [.null, .null, .null, .null, .int 0])), (o1, .inr (1, [.ref (b1 0), .ref (b1 1), .ref (b1 2), .ref (b1 3), .int 0])), (b1 0, .inl (kI, 50, .inl (fun _ => 0))), (b1 1, .inl (kZ, 50, .inl (fun _ => 0))), (b1 2, .inl (kI, 50, .inl (fun _ => 0))), (b1 3, .inl (kI, 50, .inl (fun _ => 0))), (h, .inr (0, [.ref o1, .null, .null, .null, .null, .null, .int 0, .int 0]))] H := hP
  have hD : va_D A [(o2, .inr (2, [.null, .null, .null, .null, .int 0])), (o1, .inr (1, [.ref (b1 0), .ref (b1 1), .ref (b1 2), .ref (b1 3), .int 0])), (b1 0, .inl (kI, 50, .inl (fun _ => 0))), (b1 1, .inl (kZ, 50, .inl (fun _ => 0))), (b1 2, .inl (kI, 50, .inl (fun _ => 0))), (b1 3, .inl (kI, 50, .inl (fun _ => 0))), (h, .inr (0, [.ref o1, .null, .null, .null, .null, .null, .int 0, .int 0]))] := hD
  refine lv_dup hx hb d_x_init_19 rfl ?_
  refine rl_callv (w1 := [(o2, .inr (2, [.null, .null, .null, .null, .int 0]))]) (w2 := [(o1, .inr (1, [.ref (b1 0), .ref (b1 1), .ref (b1 2), .ref (b1 3), .int 0])), (b1 0, .inl (kI, 50, .inl (fun _ => 0))), (b1 1, .inl (kZ, 50, .inl (fun _ => 0))), (b1 2, .inl (kI, 50, .inl (fun _ => 0))), (b1 3, .inl (kI, 50, .inl (fun _ => 0))), (h, .inr (0, [.ref o1, .null, .null, .null, .null, .null, .int 0, .int 0]))]) hP hD hS hA (va_runIN (As := []) (rest := [.ref o2, .ref h]) ⟨hx, hb, hml, hown, hG⟩ (k_l_init l D o2 kI kZ _) ⟨va_cnB 0 hG (rl_gI wd_64) rfl rfl rfl (hN _ (List.mem_of_getElem? (i := 1) rfl)) (hG _ wd_16) (by decide +kernel) ⟨Nat.le_of_ble_eq_true rfl, Nat.le_of_ble_eq_true rfl⟩, rfl, (hG _ wd_63)⟩ (rl_B.pre rl_nw0 (rl_P.l (w1 := [(o2, .inr (2, [.null, .null, .null, .null, .int 0]))]) hP) hK (rl_D.l (w1 := [(o2, .inr (2, [.null, .null, .null, .null, .int 0]))]) hD) rl_N0) rfl rfl hl.1 rfl (lv_room (Nat.le_of_ble_eq_true rfl)) d_x_init_20 ⟨Nat.le_of_ble_eq_true rfl, Nat.le_of_ble_eq_true rfl⟩) (fun b2 H locs hw hP hD hS => ?_)
  have hP : va_P D rl_cl [(o2, .inr (2, [.ref (b2 0), .ref (b2 1), .ref (b2 2), .ref (b2 3), .int 0])), (b2 0, .inl (kI, 100, .inl (fun _ => 0))), (b2 1, .inl (kI, 100, .inl (fun _ => 0))), (b2 2, .inl (kI, 100, .inl (fun _ => 0))), (b2 3, .inl (kI, 100, .inl (fun _ => 0))), (o1, .inr (1, [.ref (b1 0), .ref (b1 1), .ref (b1 2), .ref (b1 3), .int 0])), (b1 0, .inl (kI, 50, .inl (fun _ => 0))), (b1 1, .inl (kZ, 50, .inl (fun _ => 0))), (b1 2, .inl (kI, 50, .inl (fun _ => 0))), (b1 3, .inl (kI, 50, .inl (fun _ => 0))), (h, .inr (0, [.ref o1, .null, .null, .null, .null, .null, .int 0, .int 0]))] H := hP
  have hD : va_D A [(o2, .inr (2, [.ref (b2 0), .ref (b2 1), .ref (b2 2), .ref (b2 3), .int 0])), (b2 0, .inl (kI, 100, .inl (fun _ => 0))), (b2 1, .inl (kI, 100, .inl (fun _ => 0))), (b2 2, .inl (kI, 100, .inl (fun _ => 0))), (b2 3, .inl (kI, 100, .inl (fun _ => 0))), (o1, .inr (1, [.ref (b1 0), .ref (b1 1), .ref (b1 2), .ref (b1 3), .int 0])), (b1 0, .inl (kI, 50, .inl (fun _ => 0))), (b1 1, .inl (kZ, 50, .inl (fun _ => 0))), (b1 2, .inl (kI, 50, .inl (fun _ => 0))), (b1 3, .inl (kI, 50, .inl (fun _ => 0))), (h, .inr (0, [.ref o1, .null, .null, .null, .null, .null, .int 0, .int 0]))] := hD
  refine va_putF (D := D) (ci := 0) (v := .ref o2) (ty := fy_x 1) (C := "RightsLimit") (T := fT_x) (N := 8) hx hb hG fi_x fy_x fo_x fn_x hown hK hP hD hS 10 rfl rfl 1 (by decide) (hG _ wd_169) (fun _ h9 => h9) rfl hnm rfl (fo_x 1 (by decide)) rfl rfl (Nat.le_of_ble_eq_true rfl) d_x_init_23 (fun H locs hP hD hS => ?_)
  have hP : va_P D rl_cl [(o2, .inr (2, [.ref (b2 0), .ref (b2 1), .ref (b2 2), .ref (b2 3), .int 0])), (b2 0, .inl (kI, 100, .inl (fun _ => 0))), (b2 1, .inl (kI, 100, .inl (fun _ => 0))), (b2 2, .inl (kI, 100, .inl (fun _ => 0))), (b2 3, .inl (kI, 100, .inl (fun _ => 0))), (o1, .inr (1, [.ref (b1 0), .ref (b1 1), .ref (b1 2), .ref (b1 3), .int 0])), (b1 0, .inl (kI, 50, .inl (fun _ => 0))), (b1 1, .inl (kZ, 50, .inl (fun _ => 0))), (b1 2, .inl (kI, 50, .inl (fun _ => 0))), (b1 3, .inl (kI, 50, .inl (fun _ => 0))), (h, .inr (0, [.ref o1, .ref o2, .null, .null, .null, .null, .int 0, .int 0]))] H := hP
  have hD : va_D A [(o2, .inr (2, [.ref (b2 0), .ref (b2 1), .ref (b2 2), .ref (b2 3), .int 0])), (b2 0, .inl (kI, 100, .inl (fun _ => 0))), (b2 1, .inl (kI, 100, .inl (fun _ => 0))), (b2 2, .inl (kI, 100, .inl (fun _ => 0))), (b2 3, .inl (kI, 100, .inl (fun _ => 0))), (o1, .inr (1, [.ref (b1 0), .ref (b1 1), .ref (b1 2), .ref (b1 3), .int 0])), (b1 0, .inl (kI, 50, .inl (fun _ => 0))), (b1 1, .inl (kZ, 50, .inl (fun _ => 0))), (b1 2, .inl (kI, 50, .inl (fun _ => 0))), (b1 3, .inl (kI, 50, .inl (fun _ => 0))), (h, .inr (0, [.ref o1, .ref o2, .null, .null, .null, .null, .int 0, .int 0]))] := hD
  refine lv_aload_n hx hb d_x_init_26 rfl (lv_at hl 0 rfl) ?_
  refine va_new (ci := 3) (fs := [.null, .null, .null, .null, .null, .int 0]) (C := "RightsLimit$Licences") (T := fT_c) (N := 6) hx hb hG fi_c fy_c fo_c hown (hG _ wd_85) (hG _ wd_86) (hG _ wd_17) hK hP hD hS hA rfl (by decide +kernel) (Nat.le_of_ble_eq_true rfl) (Nat.le_of_ble_eq_true rfl) d_x_init_27 (fun o3 H hP hD hS => ?_)
  have hP := rl_P.swap hP
  have hD := rl_D.swap hD
  have hP : va_P D rl_cl [(o3, .inr (3, [.null, .null, .null, .null, .null, .int 0])), (o2, .inr (2, [.ref (b2 0), .ref (b2 1), .ref (b2 2), .ref (b2 3), .int 0])), (b2 0, .inl (kI, 100, .inl (fun _ => 0))), (b2 1, .inl (kI, 100, .inl (fun _ => 0))), (b2 2, .inl (kI, 100, .inl (fun _ => 0))), (b2 3, .inl (kI, 100, .inl (fun _ => 0))), (o1, .inr (1, [.ref (b1 0), .ref (b1 1), .ref (b1 2), .ref (b1 3), .int 0])), (b1 0, .inl (kI, 50, .inl (fun _ => 0))), (b1 1, .inl (kZ, 50, .inl (fun _ => 0))), (b1 2, .inl (kI, 50, .inl (fun _ => 0))), (b1 3, .inl (kI, 50, .inl (fun _ => 0))), (h, .inr (0, [.ref o1, .ref o2, .null, .null, .null, .null, .int 0, .int 0]))] H := hP
  have hD : va_D A [(o3, .inr (3, [.null, .null, .null, .null, .null, .int 0])), (o2, .inr (2, [.ref (b2 0), .ref (b2 1), .ref (b2 2), .ref (b2 3), .int 0])), (b2 0, .inl (kI, 100, .inl (fun _ => 0))), (b2 1, .inl (kI, 100, .inl (fun _ => 0))), (b2 2, .inl (kI, 100, .inl (fun _ => 0))), (b2 3, .inl (kI, 100, .inl (fun _ => 0))), (o1, .inr (1, [.ref (b1 0), .ref (b1 1), .ref (b1 2), .ref (b1 3), .int 0])), (b1 0, .inl (kI, 50, .inl (fun _ => 0))), (b1 1, .inl (kZ, 50, .inl (fun _ => 0))), (b1 2, .inl (kI, 50, .inl (fun _ => 0))), (b1 3, .inl (kI, 50, .inl (fun _ => 0))), (h, .inr (0, [.ref o1, .ref o2, .null, .null, .null, .null, .int 0, .int 0]))] := hD
  refine lv_dup hx hb d_x_init_30 rfl ?_
  refine rl_callv (w1 := [(o3, .inr (3, [.null, .null, .null, .null, .null, .int 0]))]) (w2 := [(o2, .inr (2, [.ref (b2 0), .ref (b2 1), .ref (b2 2), .ref (b2 3), .int 0])), (b2 0, .inl (kI, 100, .inl (fun _ => 0))), (b2 1, .inl (kI, 100, .inl (fun _ => 0))), (b2 2, .inl (kI, 100, .inl (fun _ => 0))), (b2 3, .inl (kI, 100, .inl (fun _ => 0))), (o1, .inr (1, [.ref (b1 0), .ref (b1 1), .ref (b1 2), .ref (b1 3), .int 0])), (b1 0, .inl (kI, 50, .inl (fun _ => 0))), (b1 1, .inl (kZ, 50, .inl (fun _ => 0))), (b1 2, .inl (kI, 50, .inl (fun _ => 0))), (b1 3, .inl (kI, 50, .inl (fun _ => 0))), (h, .inr (0, [.ref o1, .ref o2, .null, .null, .null, .null, .int 0, .int 0]))]) hP hD hS hA (va_runIN (As := []) (rest := [.ref o3, .ref h]) ⟨hx, hb, hml, hown, hG⟩ (k_c_init l D o3 kI kZ _) ⟨va_cnB 0 hG (rl_gI wd_89) rfl rfl rfl (hN _ (List.mem_of_getElem? (i := 2) rfl)) (hG _ wd_17) (by decide +kernel) ⟨Nat.le_of_ble_eq_true rfl, Nat.le_of_ble_eq_true rfl⟩, rfl, (hG _ wd_88)⟩ (rl_B.pre rl_nw0 (rl_P.l (w1 := [(o3, .inr (3, [.null, .null, .null, .null, .null, .int 0]))]) hP) hK (rl_D.l (w1 := [(o3, .inr (3, [.null, .null, .null, .null, .null, .int 0]))]) hD) rl_N0) rfl rfl hl.1 rfl (lv_room (Nat.le_of_ble_eq_true rfl)) d_x_init_31 ⟨Nat.le_of_ble_eq_true rfl, Nat.le_of_ble_eq_true rfl⟩) (fun b3 H locs hw hP hD hS => ?_)
  have hP : va_P D rl_cl [(o3, .inr (3, [.ref (b3 0), .ref (b3 1), .ref (b3 2), .ref (b3 3), .ref (b3 4), .int 0])), (b3 0, .inl (kI, 50, .inl (fun _ => 0))), (b3 1, .inl (kI, 50, .inl (fun _ => 0))), (b3 2, .inl (kI, 50, .inl (fun _ => 0))), (b3 3, .inl (kI, 50, .inl (fun _ => 0))), (b3 4, .inl (kI, 50, .inl (fun _ => 0))), (o2, .inr (2, [.ref (b2 0), .ref (b2 1), .ref (b2 2), .ref (b2 3), .int 0])), (b2 0, .inl (kI, 100, .inl (fun _ => 0))), (b2 1, .inl (kI, 100, .inl (fun _ => 0))), (b2 2, .inl (kI, 100, .inl (fun _ => 0))), (b2 3, .inl (kI, 100, .inl (fun _ => 0))), (o1, .inr (1, [.ref (b1 0), .ref (b1 1), .ref (b1 2), .ref (b1 3), .int 0])), (b1 0, .inl (kI, 50, .inl (fun _ => 0))), (b1 1, .inl (kZ, 50, .inl (fun _ => 0))), (b1 2, .inl (kI, 50, .inl (fun _ => 0))), (b1 3, .inl (kI, 50, .inl (fun _ => 0))), (h, .inr (0, [.ref o1, .ref o2, .null, .null, .null, .null, .int 0, .int 0]))] H := hP
  have hD : va_D A [(o3, .inr (3, [.ref (b3 0), .ref (b3 1), .ref (b3 2), .ref (b3 3), .ref (b3 4), .int 0])), (b3 0, .inl (kI, 50, .inl (fun _ => 0))), (b3 1, .inl (kI, 50, .inl (fun _ => 0))), (b3 2, .inl (kI, 50, .inl (fun _ => 0))), (b3 3, .inl (kI, 50, .inl (fun _ => 0))), (b3 4, .inl (kI, 50, .inl (fun _ => 0))), (o2, .inr (2, [.ref (b2 0), .ref (b2 1), .ref (b2 2), .ref (b2 3), .int 0])), (b2 0, .inl (kI, 100, .inl (fun _ => 0))), (b2 1, .inl (kI, 100, .inl (fun _ => 0))), (b2 2, .inl (kI, 100, .inl (fun _ => 0))), (b2 3, .inl (kI, 100, .inl (fun _ => 0))), (o1, .inr (1, [.ref (b1 0), .ref (b1 1), .ref (b1 2), .ref (b1 3), .int 0])), (b1 0, .inl (kI, 50, .inl (fun _ => 0))), (b1 1, .inl (kZ, 50, .inl (fun _ => 0))), (b1 2, .inl (kI, 50, .inl (fun _ => 0))), (b1 3, .inl (kI, 50, .inl (fun _ => 0))), (h, .inr (0, [.ref o1, .ref o2, .null, .null, .null, .null, .int 0, .int 0]))] := hD
  refine va_putF (D := D) (ci := 0) (v := .ref o3) (ty := fy_x 2) (C := "RightsLimit") (T := fT_x) (N := 8) hx hb hG fi_x fy_x fo_x fn_x hown hK hP hD hS 16 rfl rfl 2 (by decide) (hG _ wd_170) (fun _ h9 => h9) rfl hnm rfl (fo_x 2 (by decide)) rfl rfl (Nat.le_of_ble_eq_true rfl) d_x_init_34 (fun H locs hP hD hS => ?_)
  have hP : va_P D rl_cl [(o3, .inr (3, [.ref (b3 0), .ref (b3 1), .ref (b3 2), .ref (b3 3), .ref (b3 4), .int 0])), (b3 0, .inl (kI, 50, .inl (fun _ => 0))), (b3 1, .inl (kI, 50, .inl (fun _ => 0))), (b3 2, .inl (kI, 50, .inl (fun _ => 0))), (b3 3, .inl (kI, 50, .inl (fun _ => 0))), (b3 4, .inl (kI, 50, .inl (fun _ => 0))), (o2, .inr (2, [.ref (b2 0), .ref (b2 1), .ref (b2 2), .ref (b2 3), .int 0])), (b2 0, .inl (kI, 100, .inl (fun _ => 0))), (b2 1, .inl (kI, 100, .inl (fun _ => 0))), (b2 2, .inl (kI, 100, .inl (fun _ => 0))), (b2 3, .inl (kI, 100, .inl (fun _ => 0))), (o1, .inr (1, [.ref (b1 0), .ref (b1 1), .ref (b1 2), .ref (b1 3), .int 0])), (b1 0, .inl (kI, 50, .inl (fun _ => 0))), (b1 1, .inl (kZ, 50, .inl (fun _ => 0))), (b1 2, .inl (kI, 50, .inl (fun _ => 0))), (b1 3, .inl (kI, 50, .inl (fun _ => 0))), (h, .inr (0, [.ref o1, .ref o2, .ref o3, .null, .null, .null, .int 0, .int 0]))] H := hP
  have hD : va_D A [(o3, .inr (3, [.ref (b3 0), .ref (b3 1), .ref (b3 2), .ref (b3 3), .ref (b3 4), .int 0])), (b3 0, .inl (kI, 50, .inl (fun _ => 0))), (b3 1, .inl (kI, 50, .inl (fun _ => 0))), (b3 2, .inl (kI, 50, .inl (fun _ => 0))), (b3 3, .inl (kI, 50, .inl (fun _ => 0))), (b3 4, .inl (kI, 50, .inl (fun _ => 0))), (o2, .inr (2, [.ref (b2 0), .ref (b2 1), .ref (b2 2), .ref (b2 3), .int 0])), (b2 0, .inl (kI, 100, .inl (fun _ => 0))), (b2 1, .inl (kI, 100, .inl (fun _ => 0))), (b2 2, .inl (kI, 100, .inl (fun _ => 0))), (b2 3, .inl (kI, 100, .inl (fun _ => 0))), (o1, .inr (1, [.ref (b1 0), .ref (b1 1), .ref (b1 2), .ref (b1 3), .int 0])), (b1 0, .inl (kI, 50, .inl (fun _ => 0))), (b1 1, .inl (kZ, 50, .inl (fun _ => 0))), (b1 2, .inl (kI, 50, .inl (fun _ => 0))), (b1 3, .inl (kI, 50, .inl (fun _ => 0))), (h, .inr (0, [.ref o1, .ref o2, .ref o3, .null, .null, .null, .int 0, .int 0]))] := hD
  refine lv_aload_n hx hb d_x_init_37 rfl (lv_at hl 0 rfl) ?_
  refine va_new (ci := 4) (fs := [.null, .null, .null, .null, .null, .null, .null, .null, .null, .null, .null, .null, .int 0]) (C := "RightsLimit$Requests") (T := fT_q) (N := 13) hx hb hG fi_q fy_q fo_q hown (hG _ wd_111) (hG _ wd_112) (hG _ wd_18) hK hP hD hS hA rfl (by decide +kernel) (Nat.le_of_ble_eq_true rfl) (Nat.le_of_ble_eq_true rfl) d_x_init_38 (fun o4 H hP hD hS => ?_)
  have hP := rl_P.swap hP
  have hD := rl_D.swap hD
  have hP : va_P D rl_cl [(o4, .inr (4, [.null, .null, .null, .null, .null, .null, .null, .null, .null, .null, .null, .null, .int 0])), (o3, .inr (3, [.ref (b3 0), .ref (b3 1), .ref (b3 2), .ref (b3 3), .ref (b3 4), .int 0])), (b3 0, .inl (kI, 50, .inl (fun _ => 0))), (b3 1, .inl (kI, 50, .inl (fun _ => 0))), (b3 2, .inl (kI, 50, .inl (fun _ => 0))), (b3 3, .inl (kI, 50, .inl (fun _ => 0))), (b3 4, .inl (kI, 50, .inl (fun _ => 0))), (o2, .inr (2, [.ref (b2 0), .ref (b2 1), .ref (b2 2), .ref (b2 3), .int 0])), (b2 0, .inl (kI, 100, .inl (fun _ => 0))), (b2 1, .inl (kI, 100, .inl (fun _ => 0))), (b2 2, .inl (kI, 100, .inl (fun _ => 0))), (b2 3, .inl (kI, 100, .inl (fun _ => 0))), (o1, .inr (1, [.ref (b1 0), .ref (b1 1), .ref (b1 2), .ref (b1 3), .int 0])), (b1 0, .inl (kI, 50, .inl (fun _ => 0))), (b1 1, .inl (kZ, 50, .inl (fun _ => 0))), (b1 2, .inl (kI, 50, .inl (fun _ => 0))), (b1 3, .inl (kI, 50, .inl (fun _ => 0))), (h, .inr (0, [.ref o1, .ref o2, .ref o3, .null, .null, .null, .int 0, .int 0]))] H := hP
  have hD : va_D A [(o4, .inr (4, [.null, .null, .null, .null, .null, .null, .null, .null, .null, .null, .null, .null, .int 0])), (o3, .inr (3, [.ref (b3 0), .ref (b3 1), .ref (b3 2), .ref (b3 3), .ref (b3 4), .int 0])), (b3 0, .inl (kI, 50, .inl (fun _ => 0))), (b3 1, .inl (kI, 50, .inl (fun _ => 0))), (b3 2, .inl (kI, 50, .inl (fun _ => 0))), (b3 3, .inl (kI, 50, .inl (fun _ => 0))), (b3 4, .inl (kI, 50, .inl (fun _ => 0))), (o2, .inr (2, [.ref (b2 0), .ref (b2 1), .ref (b2 2), .ref (b2 3), .int 0])), (b2 0, .inl (kI, 100, .inl (fun _ => 0))), (b2 1, .inl (kI, 100, .inl (fun _ => 0))), (b2 2, .inl (kI, 100, .inl (fun _ => 0))), (b2 3, .inl (kI, 100, .inl (fun _ => 0))), (o1, .inr (1, [.ref (b1 0), .ref (b1 1), .ref (b1 2), .ref (b1 3), .int 0])), (b1 0, .inl (kI, 50, .inl (fun _ => 0))), (b1 1, .inl (kZ, 50, .inl (fun _ => 0))), (b1 2, .inl (kI, 50, .inl (fun _ => 0))), (b1 3, .inl (kI, 50, .inl (fun _ => 0))), (h, .inr (0, [.ref o1, .ref o2, .ref o3, .null, .null, .null, .int 0, .int 0]))] := hD
  refine lv_dup hx hb d_x_init_41 rfl ?_
  refine rl_callv (w1 := [(o4, .inr (4, [.null, .null, .null, .null, .null, .null, .null, .null, .null, .null, .null, .null, .int 0]))]) (w2 := [(o3, .inr (3, [.ref (b3 0), .ref (b3 1), .ref (b3 2), .ref (b3 3), .ref (b3 4), .int 0])), (b3 0, .inl (kI, 50, .inl (fun _ => 0))), (b3 1, .inl (kI, 50, .inl (fun _ => 0))), (b3 2, .inl (kI, 50, .inl (fun _ => 0))), (b3 3, .inl (kI, 50, .inl (fun _ => 0))), (b3 4, .inl (kI, 50, .inl (fun _ => 0))), (o2, .inr (2, [.ref (b2 0), .ref (b2 1), .ref (b2 2), .ref (b2 3), .int 0])), (b2 0, .inl (kI, 100, .inl (fun _ => 0))), (b2 1, .inl (kI, 100, .inl (fun _ => 0))), (b2 2, .inl (kI, 100, .inl (fun _ => 0))), (b2 3, .inl (kI, 100, .inl (fun _ => 0))), (o1, .inr (1, [.ref (b1 0), .ref (b1 1), .ref (b1 2), .ref (b1 3), .int 0])), (b1 0, .inl (kI, 50, .inl (fun _ => 0))), (b1 1, .inl (kZ, 50, .inl (fun _ => 0))), (b1 2, .inl (kI, 50, .inl (fun _ => 0))), (b1 3, .inl (kI, 50, .inl (fun _ => 0))), (h, .inr (0, [.ref o1, .ref o2, .ref o3, .null, .null, .null, .int 0, .int 0]))]) hP hD hS hA (va_runIN (As := []) (rest := [.ref o4, .ref h]) ⟨hx, hb, hml, hown, hG⟩ (k_q_init l D o4 kI kZ _) ⟨va_cnB 0 hG (rl_gI wd_115) rfl rfl rfl (hN _ (List.mem_of_getElem? (i := 3) rfl)) (hG _ wd_18) (by decide +kernel) ⟨Nat.le_of_ble_eq_true rfl, Nat.le_of_ble_eq_true rfl⟩, rfl, (hG _ wd_114)⟩ (rl_B.pre rl_nw0 (rl_P.l (w1 := [(o4, .inr (4, [.null, .null, .null, .null, .null, .null, .null, .null, .null, .null, .null, .null, .int 0]))]) hP) hK (rl_D.l (w1 := [(o4, .inr (4, [.null, .null, .null, .null, .null, .null, .null, .null, .null, .null, .null, .null, .int 0]))]) hD) rl_N0) rfl rfl hl.1 rfl (lv_room (Nat.le_of_ble_eq_true rfl)) d_x_init_42 ⟨Nat.le_of_ble_eq_true rfl, Nat.le_of_ble_eq_true rfl⟩) (fun b4 H locs hw hP hD hS => ?_)
  have hP : va_P D rl_cl [(o4, .inr (4, [.ref (b4 0), .ref (b4 1), .ref (b4 2), .ref (b4 3), .ref (b4 4), .ref (b4 5), .ref (b4 6), .ref (b4 7), .ref (b4 8), .ref (b4 9), .ref (b4 10), .ref (b4 11), .int 0])), (b4 0, .inl (kI, 300, .inl (fun _ => 0))), (b4 1, .inl (kI, 300, .inl (fun _ => 0))), (b4 2, .inl (kI, 300, .inl (fun _ => 0))), (b4 3, .inl (kI, 300, .inl (fun _ => 0))), (b4 4, .inl (kI, 300, .inl (fun _ => 0))), (b4 5, .inl (kI, 300, .inl (fun _ => 0))), (b4 6, .inl (kI, 300, .inl (fun _ => 0))), (b4 7, .inl (kI, 300, .inl (fun _ => 0))), (b4 8, .inl (kI, 300, .inl (fun _ => 0))), (b4 9, .inl (kI, 300, .inl (fun _ => 0))), (b4 10, .inl (kI, 300, .inl (fun _ => 0))), (b4 11, .inl (kI, 300, .inl (fun _ => 0))), (o3, .inr (3, [.ref (b3 0), .ref (b3 1), .ref (b3 2), .ref (b3 3), .ref (b3 4), .int 0])), (b3 0, .inl (kI, 50, .inl (fun _ => 0))), (b3 1, .inl (kI, 50, .inl (fun _ => 0))), (b3 2, .inl (kI, 50, .inl (fun _ => 0))), (b3 3, .inl (kI, 50, .inl (fun _ => 0))), (b3 4, .inl (kI, 50, .inl (fun _ => 0))), (o2, .inr (2, [.ref (b2 0), .ref (b2 1), .ref (b2 2), .ref (b2 3), .int 0])), (b2 0, .inl (kI, 100, .inl (fun _ => 0))), (b2 1, .inl (kI, 100, .inl (fun _ => 0))), (b2 2, .inl (kI, 100, .inl (fun _ => 0))), (b2 3, .inl (kI, 100, .inl (fun _ => 0))), (o1, .inr (1, [.ref (b1 0), .ref (b1 1), .ref (b1 2), .ref (b1 3), .int 0])), (b1 0, .inl (kI, 50, .inl (fun _ => 0))), (b1 1, .inl (kZ, 50, .inl (fun _ => 0))), (b1 2, .inl (kI, 50, .inl (fun _ => 0))), (b1 3, .inl (kI, 50, .inl (fun _ => 0))), (h, .inr (0, [.ref o1, .ref o2, .ref o3, .null, .null, .null, .int 0, .int 0]))] H := hP
  have hD : va_D A [(o4, .inr (4, [.ref (b4 0), .ref (b4 1), .ref (b4 2), .ref (b4 3), .ref (b4 4), .ref (b4 5), .ref (b4 6), .ref (b4 7), .ref (b4 8), .ref (b4 9), .ref (b4 10), .ref (b4 11), .int 0])), (b4 0, .inl (kI, 300, .inl (fun _ => 0))), (b4 1, .inl (kI, 300, .inl (fun _ => 0))), (b4 2, .inl (kI, 300, .inl (fun _ => 0))), (b4 3, .inl (kI, 300, .inl (fun _ => 0))), (b4 4, .inl (kI, 300, .inl (fun _ => 0))), (b4 5, .inl (kI, 300, .inl (fun _ => 0))), (b4 6, .inl (kI, 300, .inl (fun _ => 0))), (b4 7, .inl (kI, 300, .inl (fun _ => 0))), (b4 8, .inl (kI, 300, .inl (fun _ => 0))), (b4 9, .inl (kI, 300, .inl (fun _ => 0))), (b4 10, .inl (kI, 300, .inl (fun _ => 0))), (b4 11, .inl (kI, 300, .inl (fun _ => 0))), (o3, .inr (3, [.ref (b3 0), .ref (b3 1), .ref (b3 2), .ref (b3 3), .ref (b3 4), .int 0])), (b3 0, .inl (kI, 50, .inl (fun _ => 0))), (b3 1, .inl (kI, 50, .inl (fun _ => 0))), (b3 2, .inl (kI, 50, .inl (fun _ => 0))), (b3 3, .inl (kI, 50, .inl (fun _ => 0))), (b3 4, .inl (kI, 50, .inl (fun _ => 0))), (o2, .inr (2, [.ref (b2 0), .ref (b2 1), .ref (b2 2), .ref (b2 3), .int 0])), (b2 0, .inl (kI, 100, .inl (fun _ => 0))), (b2 1, .inl (kI, 100, .inl (fun _ => 0))), (b2 2, .inl (kI, 100, .inl (fun _ => 0))), (b2 3, .inl (kI, 100, .inl (fun _ => 0))), (o1, .inr (1, [.ref (b1 0), .ref (b1 1), .ref (b1 2), .ref (b1 3), .int 0])), (b1 0, .inl (kI, 50, .inl (fun _ => 0))), (b1 1, .inl (kZ, 50, .inl (fun _ => 0))), (b1 2, .inl (kI, 50, .inl (fun _ => 0))), (b1 3, .inl (kI, 50, .inl (fun _ => 0))), (h, .inr (0, [.ref o1, .ref o2, .ref o3, .null, .null, .null, .int 0, .int 0]))] := hD
  refine va_putF (D := D) (ci := 0) (v := .ref o4) (ty := fy_x 3) (C := "RightsLimit") (T := fT_x) (N := 8) hx hb hG fi_x fy_x fo_x fn_x hown hK hP hD hS 29 rfl rfl 3 (by decide) (hG _ wd_171) (fun _ h9 => h9) rfl hnm rfl (fo_x 3 (by decide)) rfl rfl (Nat.le_of_ble_eq_true rfl) d_x_init_45 (fun H locs hP hD hS => ?_)
  have hP : va_P D rl_cl [(o4, .inr (4, [.ref (b4 0), .ref (b4 1), .ref (b4 2), .ref (b4 3), .ref (b4 4), .ref (b4 5), .ref (b4 6), .ref (b4 7), .ref (b4 8), .ref (b4 9), .ref (b4 10), .ref (b4 11), .int 0])), (b4 0, .inl (kI, 300, .inl (fun _ => 0))), (b4 1, .inl (kI, 300, .inl (fun _ => 0))), (b4 2, .inl (kI, 300, .inl (fun _ => 0))), (b4 3, .inl (kI, 300, .inl (fun _ => 0))), (b4 4, .inl (kI, 300, .inl (fun _ => 0))), (b4 5, .inl (kI, 300, .inl (fun _ => 0))), (b4 6, .inl (kI, 300, .inl (fun _ => 0))), (b4 7, .inl (kI, 300, .inl (fun _ => 0))), (b4 8, .inl (kI, 300, .inl (fun _ => 0))), (b4 9, .inl (kI, 300, .inl (fun _ => 0))), (b4 10, .inl (kI, 300, .inl (fun _ => 0))), (b4 11, .inl (kI, 300, .inl (fun _ => 0))), (o3, .inr (3, [.ref (b3 0), .ref (b3 1), .ref (b3 2), .ref (b3 3), .ref (b3 4), .int 0])), (b3 0, .inl (kI, 50, .inl (fun _ => 0))), (b3 1, .inl (kI, 50, .inl (fun _ => 0))), (b3 2, .inl (kI, 50, .inl (fun _ => 0))), (b3 3, .inl (kI, 50, .inl (fun _ => 0))), (b3 4, .inl (kI, 50, .inl (fun _ => 0))), (o2, .inr (2, [.ref (b2 0), .ref (b2 1), .ref (b2 2), .ref (b2 3), .int 0])), (b2 0, .inl (kI, 100, .inl (fun _ => 0))), (b2 1, .inl (kI, 100, .inl (fun _ => 0))), (b2 2, .inl (kI, 100, .inl (fun _ => 0))), (b2 3, .inl (kI, 100, .inl (fun _ => 0))), (o1, .inr (1, [.ref (b1 0), .ref (b1 1), .ref (b1 2), .ref (b1 3), .int 0])), (b1 0, .inl (kI, 50, .inl (fun _ => 0))), (b1 1, .inl (kZ, 50, .inl (fun _ => 0))), (b1 2, .inl (kI, 50, .inl (fun _ => 0))), (b1 3, .inl (kI, 50, .inl (fun _ => 0))), (h, .inr (0, [.ref o1, .ref o2, .ref o3, .ref o4, .null, .null, .int 0, .int 0]))] H := hP
  have hD : va_D A [(o4, .inr (4, [.ref (b4 0), .ref (b4 1), .ref (b4 2), .ref (b4 3), .ref (b4 4), .ref (b4 5), .ref (b4 6), .ref (b4 7), .ref (b4 8), .ref (b4 9), .ref (b4 10), .ref (b4 11), .int 0])), (b4 0, .inl (kI, 300, .inl (fun _ => 0))), (b4 1, .inl (kI, 300, .inl (fun _ => 0))), (b4 2, .inl (kI, 300, .inl (fun _ => 0))), (b4 3, .inl (kI, 300, .inl (fun _ => 0))), (b4 4, .inl (kI, 300, .inl (fun _ => 0))), (b4 5, .inl (kI, 300, .inl (fun _ => 0))), (b4 6, .inl (kI, 300, .inl (fun _ => 0))), (b4 7, .inl (kI, 300, .inl (fun _ => 0))), (b4 8, .inl (kI, 300, .inl (fun _ => 0))), (b4 9, .inl (kI, 300, .inl (fun _ => 0))), (b4 10, .inl (kI, 300, .inl (fun _ => 0))), (b4 11, .inl (kI, 300, .inl (fun _ => 0))), (o3, .inr (3, [.ref (b3 0), .ref (b3 1), .ref (b3 2), .ref (b3 3), .ref (b3 4), .int 0])), (b3 0, .inl (kI, 50, .inl (fun _ => 0))), (b3 1, .inl (kI, 50, .inl (fun _ => 0))), (b3 2, .inl (kI, 50, .inl (fun _ => 0))), (b3 3, .inl (kI, 50, .inl (fun _ => 0))), (b3 4, .inl (kI, 50, .inl (fun _ => 0))), (o2, .inr (2, [.ref (b2 0), .ref (b2 1), .ref (b2 2), .ref (b2 3), .int 0])), (b2 0, .inl (kI, 100, .inl (fun _ => 0))), (b2 1, .inl (kI, 100, .inl (fun _ => 0))), (b2 2, .inl (kI, 100, .inl (fun _ => 0))), (b2 3, .inl (kI, 100, .inl (fun _ => 0))), (o1, .inr (1, [.ref (b1 0), .ref (b1 1), .ref (b1 2), .ref (b1 3), .int 0])), (b1 0, .inl (kI, 50, .inl (fun _ => 0))), (b1 1, .inl (kZ, 50, .inl (fun _ => 0))), (b1 2, .inl (kI, 50, .inl (fun _ => 0))), (b1 3, .inl (kI, 50, .inl (fun _ => 0))), (h, .inr (0, [.ref o1, .ref o2, .ref o3, .ref o4, .null, .null, .int 0, .int 0]))] := hD
  refine lv_aload_n hx hb d_x_init_48 rfl (lv_at hl 0 rfl) ?_
  refine lv_bipush (v := 100) hx hb d_x_init_49 (by decide) ?_
  refine rl_newa (atype := .int) (ty := .int) (N' := 100) (a0 := (100, .inl (fun _ => 0))) hx hb (hG _ wd_58) rfl (fun _ h9 => by cases h9) 0 rfl hK hP hD hS hA (fun _ => rfl) (by decide) (by decide) (by decide) (Nat.le_of_ble_eq_true rfl) (Nat.le_of_ble_eq_true rfl) d_x_init_51 (fun q0 H hP hD hS => ?_)
  have hP : va_P D rl_cl [(o4, .inr (4, [.ref (b4 0), .ref (b4 1), .ref (b4 2), .ref (b4 3), .ref (b4 4), .ref (b4 5), .ref (b4 6), .ref (b4 7), .ref (b4 8), .ref (b4 9), .ref (b4 10), .ref (b4 11), .int 0])), (b4 0, .inl (kI, 300, .inl (fun _ => 0))), (b4 1, .inl (kI, 300, .inl (fun _ => 0))), (b4 2, .inl (kI, 300, .inl (fun _ => 0))), (b4 3, .inl (kI, 300, .inl (fun _ => 0))), (b4 4, .inl (kI, 300, .inl (fun _ => 0))), (b4 5, .inl (kI, 300, .inl (fun _ => 0))), (b4 6, .inl (kI, 300, .inl (fun _ => 0))), (b4 7, .inl (kI, 300, .inl (fun _ => 0))), (b4 8, .inl (kI, 300, .inl (fun _ => 0))), (b4 9, .inl (kI, 300, .inl (fun _ => 0))), (b4 10, .inl (kI, 300, .inl (fun _ => 0))), (b4 11, .inl (kI, 300, .inl (fun _ => 0))), (o3, .inr (3, [.ref (b3 0), .ref (b3 1), .ref (b3 2), .ref (b3 3), .ref (b3 4), .int 0])), (b3 0, .inl (kI, 50, .inl (fun _ => 0))), (b3 1, .inl (kI, 50, .inl (fun _ => 0))), (b3 2, .inl (kI, 50, .inl (fun _ => 0))), (b3 3, .inl (kI, 50, .inl (fun _ => 0))), (b3 4, .inl (kI, 50, .inl (fun _ => 0))), (o2, .inr (2, [.ref (b2 0), .ref (b2 1), .ref (b2 2), .ref (b2 3), .int 0])), (b2 0, .inl (kI, 100, .inl (fun _ => 0))), (b2 1, .inl (kI, 100, .inl (fun _ => 0))), (b2 2, .inl (kI, 100, .inl (fun _ => 0))), (b2 3, .inl (kI, 100, .inl (fun _ => 0))), (o1, .inr (1, [.ref (b1 0), .ref (b1 1), .ref (b1 2), .ref (b1 3), .int 0])), (b1 0, .inl (kI, 50, .inl (fun _ => 0))), (b1 1, .inl (kZ, 50, .inl (fun _ => 0))), (b1 2, .inl (kI, 50, .inl (fun _ => 0))), (b1 3, .inl (kI, 50, .inl (fun _ => 0))), (h, .inr (0, [.ref o1, .ref o2, .ref o3, .ref o4, .null, .null, .int 0, .int 0])), (q0, .inl (kI, 100, .inl (fun _ => 0)))] H := hP
  have hD : va_D A [(o4, .inr (4, [.ref (b4 0), .ref (b4 1), .ref (b4 2), .ref (b4 3), .ref (b4 4), .ref (b4 5), .ref (b4 6), .ref (b4 7), .ref (b4 8), .ref (b4 9), .ref (b4 10), .ref (b4 11), .int 0])), (b4 0, .inl (kI, 300, .inl (fun _ => 0))), (b4 1, .inl (kI, 300, .inl (fun _ => 0))), (b4 2, .inl (kI, 300, .inl (fun _ => 0))), (b4 3, .inl (kI, 300, .inl (fun _ => 0))), (b4 4, .inl (kI, 300, .inl (fun _ => 0))), (b4 5, .inl (kI, 300, .inl (fun _ => 0))), (b4 6, .inl (kI, 300, .inl (fun _ => 0))), (b4 7, .inl (kI, 300, .inl (fun _ => 0))), (b4 8, .inl (kI, 300, .inl (fun _ => 0))), (b4 9, .inl (kI, 300, .inl (fun _ => 0))), (b4 10, .inl (kI, 300, .inl (fun _ => 0))), (b4 11, .inl (kI, 300, .inl (fun _ => 0))), (o3, .inr (3, [.ref (b3 0), .ref (b3 1), .ref (b3 2), .ref (b3 3), .ref (b3 4), .int 0])), (b3 0, .inl (kI, 50, .inl (fun _ => 0))), (b3 1, .inl (kI, 50, .inl (fun _ => 0))), (b3 2, .inl (kI, 50, .inl (fun _ => 0))), (b3 3, .inl (kI, 50, .inl (fun _ => 0))), (b3 4, .inl (kI, 50, .inl (fun _ => 0))), (o2, .inr (2, [.ref (b2 0), .ref (b2 1), .ref (b2 2), .ref (b2 3), .int 0])), (b2 0, .inl (kI, 100, .inl (fun _ => 0))), (b2 1, .inl (kI, 100, .inl (fun _ => 0))), (b2 2, .inl (kI, 100, .inl (fun _ => 0))), (b2 3, .inl (kI, 100, .inl (fun _ => 0))), (o1, .inr (1, [.ref (b1 0), .ref (b1 1), .ref (b1 2), .ref (b1 3), .int 0])), (b1 0, .inl (kI, 50, .inl (fun _ => 0))), (b1 1, .inl (kZ, 50, .inl (fun _ => 0))), (b1 2, .inl (kI, 50, .inl (fun _ => 0))), (b1 3, .inl (kI, 50, .inl (fun _ => 0))), (h, .inr (0, [.ref o1, .ref o2, .ref o3, .ref o4, .null, .null, .int 0, .int 0])), (q0, .inl (kI, 100, .inl (fun _ => 0)))] := hD
  refine va_putF (D := D) (ci := 0) (v := .ref q0) (ty := fy_x 4) (C := "RightsLimit") (T := fT_x) (N := 8) hx hb hG fi_x fy_x fo_x fn_x hown hK hP hD hS 29 rfl rfl 4 (by decide) (hG _ wd_172) (fun _ h9 => h9) rfl hnm rfl (fo_x 4 (by decide)) rfl rfl (Nat.le_of_ble_eq_true rfl) d_x_init_53 (fun H locs hP hD hS => ?_)
  have hP : va_P D rl_cl [(o4, .inr (4, [.ref (b4 0), .ref (b4 1), .ref (b4 2), .ref (b4 3), .ref (b4 4), .ref (b4 5), .ref (b4 6), .ref (b4 7), .ref (b4 8), .ref (b4 9), .ref (b4 10), .ref (b4 11), .int 0])), (b4 0, .inl (kI, 300, .inl (fun _ => 0))), (b4 1, .inl (kI, 300, .inl (fun _ => 0))), (b4 2, .inl (kI, 300, .inl (fun _ => 0))), (b4 3, .inl (kI, 300, .inl (fun _ => 0))), (b4 4, .inl (kI, 300, .inl (fun _ => 0))), (b4 5, .inl (kI, 300, .inl (fun _ => 0))), (b4 6, .inl (kI, 300, .inl (fun _ => 0))), (b4 7, .inl (kI, 300, .inl (fun _ => 0))), (b4 8, .inl (kI, 300, .inl (fun _ => 0))), (b4 9, .inl (kI, 300, .inl (fun _ => 0))), (b4 10, .inl (kI, 300, .inl (fun _ => 0))), (b4 11, .inl (kI, 300, .inl (fun _ => 0))), (o3, .inr (3, [.ref (b3 0), .ref (b3 1), .ref (b3 2), .ref (b3 3), .ref (b3 4), .int 0])), (b3 0, .inl (kI, 50, .inl (fun _ => 0))), (b3 1, .inl (kI, 50, .inl (fun _ => 0))), (b3 2, .inl (kI, 50, .inl (fun _ => 0))), (b3 3, .inl (kI, 50, .inl (fun _ => 0))), (b3 4, .inl (kI, 50, .inl (fun _ => 0))), (o2, .inr (2, [.ref (b2 0), .ref (b2 1), .ref (b2 2), .ref (b2 3), .int 0])), (b2 0, .inl (kI, 100, .inl (fun _ => 0))), (b2 1, .inl (kI, 100, .inl (fun _ => 0))), (b2 2, .inl (kI, 100, .inl (fun _ => 0))), (b2 3, .inl (kI, 100, .inl (fun _ => 0))), (o1, .inr (1, [.ref (b1 0), .ref (b1 1), .ref (b1 2), .ref (b1 3), .int 0])), (b1 0, .inl (kI, 50, .inl (fun _ => 0))), (b1 1, .inl (kZ, 50, .inl (fun _ => 0))), (b1 2, .inl (kI, 50, .inl (fun _ => 0))), (b1 3, .inl (kI, 50, .inl (fun _ => 0))), (h, .inr (0, [.ref o1, .ref o2, .ref o3, .ref o4, .ref q0, .null, .int 0, .int 0])), (q0, .inl (kI, 100, .inl (fun _ => 0)))] H := hP
  have hD : va_D A [(o4, .inr (4, [.ref (b4 0), .ref (b4 1), .ref (b4 2), .ref (b4 3), .ref (b4 4), .ref (b4 5), .ref (b4 6), .ref (b4 7), .ref (b4 8), .ref (b4 9), .ref (b4 10), .ref (b4 11), .int 0])), (b4 0, .inl (kI, 300, .inl (fun _ => 0))), (b4 1, .inl (kI, 300, .inl (fun _ => 0))), (b4 2, .inl (kI, 300, .inl (fun _ => 0))), (b4 3, .inl (kI, 300, .inl (fun _ => 0))), (b4 4, .inl (kI, 300, .inl (fun _ => 0))), (b4 5, .inl (kI, 300, .inl (fun _ => 0))), (b4 6, .inl (kI, 300, .inl (fun _ => 0))), (b4 7, .inl (kI, 300, .inl (fun _ => 0))), (b4 8, .inl (kI, 300, .inl (fun _ => 0))), (b4 9, .inl (kI, 300, .inl (fun _ => 0))), (b4 10, .inl (kI, 300, .inl (fun _ => 0))), (b4 11, .inl (kI, 300, .inl (fun _ => 0))), (o3, .inr (3, [.ref (b3 0), .ref (b3 1), .ref (b3 2), .ref (b3 3), .ref (b3 4), .int 0])), (b3 0, .inl (kI, 50, .inl (fun _ => 0))), (b3 1, .inl (kI, 50, .inl (fun _ => 0))), (b3 2, .inl (kI, 50, .inl (fun _ => 0))), (b3 3, .inl (kI, 50, .inl (fun _ => 0))), (b3 4, .inl (kI, 50, .inl (fun _ => 0))), (o2, .inr (2, [.ref (b2 0), .ref (b2 1), .ref (b2 2), .ref (b2 3), .int 0])), (b2 0, .inl (kI, 100, .inl (fun _ => 0))), (b2 1, .inl (kI, 100, .inl (fun _ => 0))), (b2 2, .inl (kI, 100, .inl (fun _ => 0))), (b2 3, .inl (kI, 100, .inl (fun _ => 0))), (o1, .inr (1, [.ref (b1 0), .ref (b1 1), .ref (b1 2), .ref (b1 3), .int 0])), (b1 0, .inl (kI, 50, .inl (fun _ => 0))), (b1 1, .inl (kZ, 50, .inl (fun _ => 0))), (b1 2, .inl (kI, 50, .inl (fun _ => 0))), (b1 3, .inl (kI, 50, .inl (fun _ => 0))), (h, .inr (0, [.ref o1, .ref o2, .ref o3, .ref o4, .ref q0, .null, .int 0, .int 0])), (q0, .inl (kI, 100, .inl (fun _ => 0)))] := hD
  refine lv_aload_n hx hb d_x_init_56 rfl (lv_at hl 0 rfl) ?_
  refine lv_bipush (v := 100) hx hb d_x_init_57 (by decide) ?_
  refine rl_newa (atype := .int) (ty := .int) (N' := 100) (a0 := (100, .inl (fun _ => 0))) hx hb (hG _ wd_58) rfl (fun _ h9 => by cases h9) 0 rfl hK hP hD hS hA (fun _ => rfl) (by decide) (by decide) (by decide) (Nat.le_of_ble_eq_true rfl) (Nat.le_of_ble_eq_true rfl) d_x_init_59 (fun q1 H hP hD hS => ?_)
  have hP : va_P D rl_cl [(o4, .inr (4, [.ref (b4 0), .ref (b4 1), .ref (b4 2), .ref (b4 3), .ref (b4 4), .ref (b4 5), .ref (b4 6), .ref (b4 7), .ref (b4 8), .ref (b4 9), .ref (b4 10), .ref (b4 11), .int 0])), (b4 0, .inl (kI, 300, .inl (fun _ => 0))), (b4 1, .inl (kI, 300, .inl (fun _ => 0))), (b4 2, .inl (kI, 300, .inl (fun _ => 0))), (b4 3, .inl (kI, 300, .inl (fun _ => 0))), (b4 4, .inl (kI, 300, .inl (fun _ => 0))), (b4 5, .inl (kI, 300, .inl (fun _ => 0))), (b4 6, .inl (kI, 300, .inl (fun _ => 0))), (b4 7, .inl (kI, 300, .inl (fun _ => 0))), (b4 8, .inl (kI, 300, .inl (fun _ => 0))), (b4 9, .inl (kI, 300, .inl (fun _ => 0))), (b4 10, .inl (kI, 300, .inl (fun _ => 0))), (b4 11, .inl (kI, 300, .inl (fun _ => 0))), (o3, .inr (3, [.ref (b3 0), .ref (b3 1), .ref (b3 2), .ref (b3 3), .ref (b3 4), .int 0])), (b3 0, .inl (kI, 50, .inl (fun _ => 0))), (b3 1, .inl (kI, 50, .inl (fun _ => 0))), (b3 2, .inl (kI, 50, .inl (fun _ => 0))), (b3 3, .inl (kI, 50, .inl (fun _ => 0))), (b3 4, .inl (kI, 50, .inl (fun _ => 0))), (o2, .inr (2, [.ref (b2 0), .ref (b2 1), .ref (b2 2), .ref (b2 3), .int 0])), (b2 0, .inl (kI, 100, .inl (fun _ => 0))), (b2 1, .inl (kI, 100, .inl (fun _ => 0))), (b2 2, .inl (kI, 100, .inl (fun _ => 0))), (b2 3, .inl (kI, 100, .inl (fun _ => 0))), (o1, .inr (1, [.ref (b1 0), .ref (b1 1), .ref (b1 2), .ref (b1 3), .int 0])), (b1 0, .inl (kI, 50, .inl (fun _ => 0))), (b1 1, .inl (kZ, 50, .inl (fun _ => 0))), (b1 2, .inl (kI, 50, .inl (fun _ => 0))), (b1 3, .inl (kI, 50, .inl (fun _ => 0))), (h, .inr (0, [.ref o1, .ref o2, .ref o3, .ref o4, .ref q0, .null, .int 0, .int 0])), (q0, .inl (kI, 100, .inl (fun _ => 0))), (q1, .inl (kI, 100, .inl (fun _ => 0)))] H := hP
  have hD : va_D A [(o4, .inr (4, [.ref (b4 0), .ref (b4 1), .ref (b4 2), .ref (b4 3), .ref (b4 4), .ref (b4 5), .ref (b4 6), .ref (b4 7), .ref (b4 8), .ref (b4 9), .ref (b4 10), .ref (b4 11), .int 0])), (b4 0, .inl (kI, 300, .inl (fun _ => 0))), (b4 1, .inl (kI, 300, .inl (fun _ => 0))), (b4 2, .inl (kI, 300, .inl (fun _ => 0))), (b4 3, .inl (kI, 300, .inl (fun _ => 0))), (b4 4, .inl (kI, 300, .inl (fun _ => 0))), (b4 5, .inl (kI, 300, .inl (fun _ => 0))), (b4 6, .inl (kI, 300, .inl (fun _ => 0))), (b4 7, .inl (kI, 300, .inl (fun _ => 0))), (b4 8, .inl (kI, 300, .inl (fun _ => 0))), (b4 9, .inl (kI, 300, .inl (fun _ => 0))), (b4 10, .inl (kI, 300, .inl (fun _ => 0))), (b4 11, .inl (kI, 300, .inl (fun _ => 0))), (o3, .inr (3, [.ref (b3 0), .ref (b3 1), .ref (b3 2), .ref (b3 3), .ref (b3 4), .int 0])), (b3 0, .inl (kI, 50, .inl (fun _ => 0))), (b3 1, .inl (kI, 50, .inl (fun _ => 0))), (b3 2, .inl (kI, 50, .inl (fun _ => 0))), (b3 3, .inl (kI, 50, .inl (fun _ => 0))), (b3 4, .inl (kI, 50, .inl (fun _ => 0))), (o2, .inr (2, [.ref (b2 0), .ref (b2 1), .ref (b2 2), .ref (b2 3), .int 0])), (b2 0, .inl (kI, 100, .inl (fun _ => 0))), (b2 1, .inl (kI, 100, .inl (fun _ => 0))), (b2 2, .inl (kI, 100, .inl (fun _ => 0))), (b2 3, .inl (kI, 100, .inl (fun _ => 0))), (o1, .inr (1, [.ref (b1 0), .ref (b1 1), .ref (b1 2), .ref (b1 3), .int 0])), (b1 0, .inl (kI, 50, .inl (fun _ => 0))), (b1 1, .inl (kZ, 50, .inl (fun _ => 0))), (b1 2, .inl (kI, 50, .inl (fun _ => 0))), (b1 3, .inl (kI, 50, .inl (fun _ => 0))), (h, .inr (0, [.ref o1, .ref o2, .ref o3, .ref o4, .ref q0, .null, .int 0, .int 0])), (q0, .inl (kI, 100, .inl (fun _ => 0))), (q1, .inl (kI, 100, .inl (fun _ => 0)))] := hD
  refine va_putF (D := D) (ci := 0) (v := .ref q1) (ty := fy_x 5) (C := "RightsLimit") (T := fT_x) (N := 8) hx hb hG fi_x fy_x fo_x fn_x hown hK hP hD hS 29 rfl rfl 5 (by decide) (hG _ wd_173) (fun _ h9 => h9) rfl hnm rfl (fo_x 5 (by decide)) rfl rfl (Nat.le_of_ble_eq_true rfl) d_x_init_61 (fun H locs hP hD hS => ?_)
  have hP : va_P D rl_cl [(o4, .inr (4, [.ref (b4 0), .ref (b4 1), .ref (b4 2), .ref (b4 3), .ref (b4 4), .ref (b4 5), .ref (b4 6), .ref (b4 7), .ref (b4 8), .ref (b4 9), .ref (b4 10), .ref (b4 11), .int 0])), (b4 0, .inl (kI, 300, .inl (fun _ => 0))), (b4 1, .inl (kI, 300, .inl (fun _ => 0))), (b4 2, .inl (kI, 300, .inl (fun _ => 0))), (b4 3, .inl (kI, 300, .inl (fun _ => 0))), (b4 4, .inl (kI, 300, .inl (fun _ => 0))), (b4 5, .inl (kI, 300, .inl (fun _ => 0))), (b4 6, .inl (kI, 300, .inl (fun _ => 0))), (b4 7, .inl (kI, 300, .inl (fun _ => 0))), (b4 8, .inl (kI, 300, .inl (fun _ => 0))), (b4 9, .inl (kI, 300, .inl (fun _ => 0))), (b4 10, .inl (kI, 300, .inl (fun _ => 0))), (b4 11, .inl (kI, 300, .inl (fun _ => 0))), (o3, .inr (3, [.ref (b3 0), .ref (b3 1), .ref (b3 2), .ref (b3 3), .ref (b3 4), .int 0])), (b3 0, .inl (kI, 50, .inl (fun _ => 0))), (b3 1, .inl (kI, 50, .inl (fun _ => 0))), (b3 2, .inl (kI, 50, .inl (fun _ => 0))), (b3 3, .inl (kI, 50, .inl (fun _ => 0))), (b3 4, .inl (kI, 50, .inl (fun _ => 0))), (o2, .inr (2, [.ref (b2 0), .ref (b2 1), .ref (b2 2), .ref (b2 3), .int 0])), (b2 0, .inl (kI, 100, .inl (fun _ => 0))), (b2 1, .inl (kI, 100, .inl (fun _ => 0))), (b2 2, .inl (kI, 100, .inl (fun _ => 0))), (b2 3, .inl (kI, 100, .inl (fun _ => 0))), (o1, .inr (1, [.ref (b1 0), .ref (b1 1), .ref (b1 2), .ref (b1 3), .int 0])), (b1 0, .inl (kI, 50, .inl (fun _ => 0))), (b1 1, .inl (kZ, 50, .inl (fun _ => 0))), (b1 2, .inl (kI, 50, .inl (fun _ => 0))), (b1 3, .inl (kI, 50, .inl (fun _ => 0))), (h, .inr (0, [.ref o1, .ref o2, .ref o3, .ref o4, .ref q0, .ref q1, .int 0, .int 0])), (q0, .inl (kI, 100, .inl (fun _ => 0))), (q1, .inl (kI, 100, .inl (fun _ => 0)))] H := hP
  have hD : va_D A [(o4, .inr (4, [.ref (b4 0), .ref (b4 1), .ref (b4 2), .ref (b4 3), .ref (b4 4), .ref (b4 5), .ref (b4 6), .ref (b4 7), .ref (b4 8), .ref (b4 9), .ref (b4 10), .ref (b4 11), .int 0])), (b4 0, .inl (kI, 300, .inl (fun _ => 0))), (b4 1, .inl (kI, 300, .inl (fun _ => 0))), (b4 2, .inl (kI, 300, .inl (fun _ => 0))), (b4 3, .inl (kI, 300, .inl (fun _ => 0))), (b4 4, .inl (kI, 300, .inl (fun _ => 0))), (b4 5, .inl (kI, 300, .inl (fun _ => 0))), (b4 6, .inl (kI, 300, .inl (fun _ => 0))), (b4 7, .inl (kI, 300, .inl (fun _ => 0))), (b4 8, .inl (kI, 300, .inl (fun _ => 0))), (b4 9, .inl (kI, 300, .inl (fun _ => 0))), (b4 10, .inl (kI, 300, .inl (fun _ => 0))), (b4 11, .inl (kI, 300, .inl (fun _ => 0))), (o3, .inr (3, [.ref (b3 0), .ref (b3 1), .ref (b3 2), .ref (b3 3), .ref (b3 4), .int 0])), (b3 0, .inl (kI, 50, .inl (fun _ => 0))), (b3 1, .inl (kI, 50, .inl (fun _ => 0))), (b3 2, .inl (kI, 50, .inl (fun _ => 0))), (b3 3, .inl (kI, 50, .inl (fun _ => 0))), (b3 4, .inl (kI, 50, .inl (fun _ => 0))), (o2, .inr (2, [.ref (b2 0), .ref (b2 1), .ref (b2 2), .ref (b2 3), .int 0])), (b2 0, .inl (kI, 100, .inl (fun _ => 0))), (b2 1, .inl (kI, 100, .inl (fun _ => 0))), (b2 2, .inl (kI, 100, .inl (fun _ => 0))), (b2 3, .inl (kI, 100, .inl (fun _ => 0))), (o1, .inr (1, [.ref (b1 0), .ref (b1 1), .ref (b1 2), .ref (b1 3), .int 0])), (b1 0, .inl (kI, 50, .inl (fun _ => 0))), (b1 1, .inl (kZ, 50, .inl (fun _ => 0))), (b1 2, .inl (kI, 50, .inl (fun _ => 0))), (b1 3, .inl (kI, 50, .inl (fun _ => 0))), (h, .inr (0, [.ref o1, .ref o2, .ref o3, .ref o4, .ref q0, .ref q1, .int 0, .int 0])), (q0, .inl (kI, 100, .inl (fun _ => 0))), (q1, .inl (kI, 100, .inl (fun _ => 0)))] := hD
  refine lv_aload_n hx hb d_x_init_64 rfl (lv_at hl 0 rfl) ?_
  refine lv_iconst (v := 0) hx hb d_x_init_65 (by decide) ?_
  refine va_put (D := D) (ci := 0) (v := .int 0) (ty := fy_x 6) (C := "RightsLimit") (T := fT_x) (N := 8) hx hb hG fi_x fy_x fo_x fn_x hown hK hP hD hS 29 rfl rfl 6 (by decide) (hG _ wd_174) (fun _ h9 => h9) rfl (fo_x 6 (by decide)) rfl rfl (Nat.le_of_ble_eq_true rfl) d_x_init_66 (fun H locs hP hD hS => ?_)
  have hP : va_P D rl_cl [(o4, .inr (4, [.ref (b4 0), .ref (b4 1), .ref (b4 2), .ref (b4 3), .ref (b4 4), .ref (b4 5), .ref (b4 6), .ref (b4 7), .ref (b4 8), .ref (b4 9), .ref (b4 10), .ref (b4 11), .int 0])), (b4 0, .inl (kI, 300, .inl (fun _ => 0))), (b4 1, .inl (kI, 300, .inl (fun _ => 0))), (b4 2, .inl (kI, 300, .inl (fun _ => 0))), (b4 3, .inl (kI, 300, .inl (fun _ => 0))), (b4 4, .inl (kI, 300, .inl (fun _ => 0))), (b4 5, .inl (kI, 300, .inl (fun _ => 0))), (b4 6, .inl (kI, 300, .inl (fun _ => 0))), (b4 7, .inl (kI, 300, .inl (fun _ => 0))), (b4 8, .inl (kI, 300, .inl (fun _ => 0))), (b4 9, .inl (kI, 300, .inl (fun _ => 0))), (b4 10, .inl (kI, 300, .inl (fun _ => 0))), (b4 11, .inl (kI, 300, .inl (fun _ => 0))), (o3, .inr (3, [.ref (b3 0), .ref (b3 1), .ref (b3 2), .ref (b3 3), .ref (b3 4), .int 0])), (b3 0, .inl (kI, 50, .inl (fun _ => 0))), (b3 1, .inl (kI, 50, .inl (fun _ => 0))), (b3 2, .inl (kI, 50, .inl (fun _ => 0))), (b3 3, .inl (kI, 50, .inl (fun _ => 0))), (b3 4, .inl (kI, 50, .inl (fun _ => 0))), (o2, .inr (2, [.ref (b2 0), .ref (b2 1), .ref (b2 2), .ref (b2 3), .int 0])), (b2 0, .inl (kI, 100, .inl (fun _ => 0))), (b2 1, .inl (kI, 100, .inl (fun _ => 0))), (b2 2, .inl (kI, 100, .inl (fun _ => 0))), (b2 3, .inl (kI, 100, .inl (fun _ => 0))), (o1, .inr (1, [.ref (b1 0), .ref (b1 1), .ref (b1 2), .ref (b1 3), .int 0])), (b1 0, .inl (kI, 50, .inl (fun _ => 0))), (b1 1, .inl (kZ, 50, .inl (fun _ => 0))), (b1 2, .inl (kI, 50, .inl (fun _ => 0))), (b1 3, .inl (kI, 50, .inl (fun _ => 0))), (h, .inr (0, [.ref o1, .ref o2, .ref o3, .ref o4, .ref q0, .ref q1, .int 0, .int 0])), (q0, .inl (kI, 100, .inl (fun _ => 0))), (q1, .inl (kI, 100, .inl (fun _ => 0)))] H := hP
  have hD : va_D A [(o4, .inr (4, [.ref (b4 0), .ref (b4 1), .ref (b4 2), .ref (b4 3), .ref (b4 4), .ref (b4 5), .ref (b4 6), .ref (b4 7), .ref (b4 8), .ref (b4 9), .ref (b4 10), .ref (b4 11), .int 0])), (b4 0, .inl (kI, 300, .inl (fun _ => 0))), (b4 1, .inl (kI, 300, .inl (fun _ => 0))), (b4 2, .inl (kI, 300, .inl (fun _ => 0))), (b4 3, .inl (kI, 300, .inl (fun _ => 0))), (b4 4, .inl (kI, 300, .inl (fun _ => 0))), (b4 5, .inl (kI, 300, .inl (fun _ => 0))), (b4 6, .inl (kI, 300, .inl (fun _ => 0))), (b4 7, .inl (kI, 300, .inl (fun _ => 0))), (b4 8, .inl (kI, 300, .inl (fun _ => 0))), (b4 9, .inl (kI, 300, .inl (fun _ => 0))), (b4 10, .inl (kI, 300, .inl (fun _ => 0))), (b4 11, .inl (kI, 300, .inl (fun _ => 0))), (o3, .inr (3, [.ref (b3 0), .ref (b3 1), .ref (b3 2), .ref (b3 3), .ref (b3 4), .int 0])), (b3 0, .inl (kI, 50, .inl (fun _ => 0))), (b3 1, .inl (kI, 50, .inl (fun _ => 0))), (b3 2, .inl (kI, 50, .inl (fun _ => 0))), (b3 3, .inl (kI, 50, .inl (fun _ => 0))), (b3 4, .inl (kI, 50, .inl (fun _ => 0))), (o2, .inr (2, [.ref (b2 0), .ref (b2 1), .ref (b2 2), .ref (b2 3), .int 0])), (b2 0, .inl (kI, 100, .inl (fun _ => 0))), (b2 1, .inl (kI, 100, .inl (fun _ => 0))), (b2 2, .inl (kI, 100, .inl (fun _ => 0))), (b2 3, .inl (kI, 100, .inl (fun _ => 0))), (o1, .inr (1, [.ref (b1 0), .ref (b1 1), .ref (b1 2), .ref (b1 3), .int 0])), (b1 0, .inl (kI, 50, .inl (fun _ => 0))), (b1 1, .inl (kZ, 50, .inl (fun _ => 0))), (b1 2, .inl (kI, 50, .inl (fun _ => 0))), (b1 3, .inl (kI, 50, .inl (fun _ => 0))), (h, .inr (0, [.ref o1, .ref o2, .ref o3, .ref o4, .ref q0, .ref q1, .int 0, .int 0])), (q0, .inl (kI, 100, .inl (fun _ => 0))), (q1, .inl (kI, 100, .inl (fun _ => 0)))] := hD
  refine lv_aload_n hx hb d_x_init_69 rfl (lv_at hl 0 rfl) ?_
  refine lv_iconst (v := (-1)) hx hb d_x_init_70 (by decide) ?_
  refine va_put (D := D) (ci := 0) (v := .int (-1)) (ty := fy_x 7) (C := "RightsLimit") (T := fT_x) (N := 8) hx hb hG fi_x fy_x fo_x fn_x hown hK hP hD hS 29 rfl rfl 7 (by decide) (hG _ wd_175) (fun _ h9 => h9) rfl (fo_x 7 (by decide)) rfl rfl (Nat.le_of_ble_eq_true rfl) d_x_init_71 (fun H locs hP hD hS => ?_)
  have hP : va_P D rl_cl [(o4, .inr (4, [.ref (b4 0), .ref (b4 1), .ref (b4 2), .ref (b4 3), .ref (b4 4), .ref (b4 5), .ref (b4 6), .ref (b4 7), .ref (b4 8), .ref (b4 9), .ref (b4 10), .ref (b4 11), .int 0])), (b4 0, .inl (kI, 300, .inl (fun _ => 0))), (b4 1, .inl (kI, 300, .inl (fun _ => 0))), (b4 2, .inl (kI, 300, .inl (fun _ => 0))), (b4 3, .inl (kI, 300, .inl (fun _ => 0))), (b4 4, .inl (kI, 300, .inl (fun _ => 0))), (b4 5, .inl (kI, 300, .inl (fun _ => 0))), (b4 6, .inl (kI, 300, .inl (fun _ => 0))), (b4 7, .inl (kI, 300, .inl (fun _ => 0))), (b4 8, .inl (kI, 300, .inl (fun _ => 0))), (b4 9, .inl (kI, 300, .inl (fun _ => 0))), (b4 10, .inl (kI, 300, .inl (fun _ => 0))), (b4 11, .inl (kI, 300, .inl (fun _ => 0))), (o3, .inr (3, [.ref (b3 0), .ref (b3 1), .ref (b3 2), .ref (b3 3), .ref (b3 4), .int 0])), (b3 0, .inl (kI, 50, .inl (fun _ => 0))), (b3 1, .inl (kI, 50, .inl (fun _ => 0))), (b3 2, .inl (kI, 50, .inl (fun _ => 0))), (b3 3, .inl (kI, 50, .inl (fun _ => 0))), (b3 4, .inl (kI, 50, .inl (fun _ => 0))), (o2, .inr (2, [.ref (b2 0), .ref (b2 1), .ref (b2 2), .ref (b2 3), .int 0])), (b2 0, .inl (kI, 100, .inl (fun _ => 0))), (b2 1, .inl (kI, 100, .inl (fun _ => 0))), (b2 2, .inl (kI, 100, .inl (fun _ => 0))), (b2 3, .inl (kI, 100, .inl (fun _ => 0))), (o1, .inr (1, [.ref (b1 0), .ref (b1 1), .ref (b1 2), .ref (b1 3), .int 0])), (b1 0, .inl (kI, 50, .inl (fun _ => 0))), (b1 1, .inl (kZ, 50, .inl (fun _ => 0))), (b1 2, .inl (kI, 50, .inl (fun _ => 0))), (b1 3, .inl (kI, 50, .inl (fun _ => 0))), (h, .inr (0, [.ref o1, .ref o2, .ref o3, .ref o4, .ref q0, .ref q1, .int 0, .int (-1)])), (q0, .inl (kI, 100, .inl (fun _ => 0))), (q1, .inl (kI, 100, .inl (fun _ => 0)))] H := hP
  have hD : va_D A [(o4, .inr (4, [.ref (b4 0), .ref (b4 1), .ref (b4 2), .ref (b4 3), .ref (b4 4), .ref (b4 5), .ref (b4 6), .ref (b4 7), .ref (b4 8), .ref (b4 9), .ref (b4 10), .ref (b4 11), .int 0])), (b4 0, .inl (kI, 300, .inl (fun _ => 0))), (b4 1, .inl (kI, 300, .inl (fun _ => 0))), (b4 2, .inl (kI, 300, .inl (fun _ => 0))), (b4 3, .inl (kI, 300, .inl (fun _ => 0))), (b4 4, .inl (kI, 300, .inl (fun _ => 0))), (b4 5, .inl (kI, 300, .inl (fun _ => 0))), (b4 6, .inl (kI, 300, .inl (fun _ => 0))), (b4 7, .inl (kI, 300, .inl (fun _ => 0))), (b4 8, .inl (kI, 300, .inl (fun _ => 0))), (b4 9, .inl (kI, 300, .inl (fun _ => 0))), (b4 10, .inl (kI, 300, .inl (fun _ => 0))), (b4 11, .inl (kI, 300, .inl (fun _ => 0))), (o3, .inr (3, [.ref (b3 0), .ref (b3 1), .ref (b3 2), .ref (b3 3), .ref (b3 4), .int 0])), (b3 0, .inl (kI, 50, .inl (fun _ => 0))), (b3 1, .inl (kI, 50, .inl (fun _ => 0))), (b3 2, .inl (kI, 50, .inl (fun _ => 0))), (b3 3, .inl (kI, 50, .inl (fun _ => 0))), (b3 4, .inl (kI, 50, .inl (fun _ => 0))), (o2, .inr (2, [.ref (b2 0), .ref (b2 1), .ref (b2 2), .ref (b2 3), .int 0])), (b2 0, .inl (kI, 100, .inl (fun _ => 0))), (b2 1, .inl (kI, 100, .inl (fun _ => 0))), (b2 2, .inl (kI, 100, .inl (fun _ => 0))), (b2 3, .inl (kI, 100, .inl (fun _ => 0))), (o1, .inr (1, [.ref (b1 0), .ref (b1 1), .ref (b1 2), .ref (b1 3), .int 0])), (b1 0, .inl (kI, 50, .inl (fun _ => 0))), (b1 1, .inl (kZ, 50, .inl (fun _ => 0))), (b1 2, .inl (kI, 50, .inl (fun _ => 0))), (b1 3, .inl (kI, 50, .inl (fun _ => 0))), (h, .inr (0, [.ref o1, .ref o2, .ref o3, .ref o4, .ref q0, .ref q1, .int 0, .int (-1)])), (q0, .inl (kI, 100, .inl (fun _ => 0))), (q1, .inl (kI, 100, .inl (fun _ => 0)))] := hD
  have hP9 := hP.sub (ws' := rl_w (fun k => match k with | 0 => h | 1 => o1 | 2 => o2 | 3 => o3 | 4 => o4 | 5 => b1 0 | 6 => b1 1 | 7 => b1 2 | 8 => b1 3 | 9 => b2 0 | 10 => b2 1 | 11 => b2 2 | 12 => b2 3 | 13 => b3 0 | 14 => b3 1 | 15 => b3 2 | 16 => b3 3 | 17 => b3 4 | 18 => b4 0 | 19 => b4 1 | 20 => b4 2 | 21 => b4 3 | 22 => b4 4 | 23 => b4 5 | 24 => b4 6 | 25 => b4 7 | 26 => b4 8 | 27 => b4 9 | 28 => b4 10 | 29 => b4 11 | 30 => q0 | 31 => q1 | _ => 0) kI kZ rl_F0) [29, 24, 19, 13, 0, 25, 26, 27, 28, 20, 21, 22, 23, 14, 15, 16, 17, 18, 1, 2, 3, 4, 5, 6, 7, 8, 9, 10, 11, 12, 30, 31] rfl
  have hD9 := hD.sub (ws' := rl_w (fun k => match k with | 0 => h | 1 => o1 | 2 => o2 | 3 => o3 | 4 => o4 | 5 => b1 0 | 6 => b1 1 | 7 => b1 2 | 8 => b1 3 | 9 => b2 0 | 10 => b2 1 | 11 => b2 2 | 12 => b2 3 | 13 => b3 0 | 14 => b3 1 | 15 => b3 2 | 16 => b3 3 | 17 => b3 4 | 18 => b4 0 | 19 => b4 1 | 20 => b4 2 | 21 => b4 3 | 22 => b4 4 | 23 => b4 5 | 24 => b4 6 | 25 => b4 7 | 26 => b4 8 | 27 => b4 9 | 28 => b4 10 | 29 => b4 11 | 30 => q0 | 31 => q1 | _ => 0) kI kZ rl_F0) [29, 24, 19, 13, 0, 25, 26, 27, 28, 20, 21, 22, 23, 14, 15, 16, 17, 18, 1, 2, 3, 4, 5, 6, 7, 8, 9, 10, 11, 12, 30, 31] (by decide) rfl
  exact W.vret hx hb hr (fun t ht hW => ⟨⟨(fun k => match k with | 0 => h | 1 => o1 | 2 => o2 | 3 => o3 | 4 => o4 | 5 => b1 0 | 6 => b1 1 | 7 => b1 2 | 8 => b1 3 | 9 => b2 0 | 10 => b2 1 | 11 => b2 2 | 12 => b2 3 | 13 => b3 0 | 14 => b3 1 | 15 => b3 2 | 16 => b3 3 | 17 => b3 4 | 18 => b4 0 | 19 => b4 1 | 20 => b4 2 | 21 => b4 3 | 22 => b4 4 | 23 => b4 5 | 24 => b4 6 | 25 => b4 7 | 26 => b4 8 | 27 => b4 9 | 28 => b4 10 | 29 => b4 11 | 30 => q0 | 31 => q1 | _ => 0), rfl, rfl, ⟨by rw [ht]; exact hP9, hD9⟩⟩, hS.F ht⟩) hS.2.2 d_x_init_74
set_option maxHeartbeats 4000000 in
set_option maxRecDepth 100000 in
theorem k_m_init (l : Launch) (D : va_G) (h : Nat) (kI kZ : ClassId) (sz : Nat) : rl_Cv (S := Nat → Nat) l ⟨"RightsLimitModel", "<init>", "()V"⟩ (Cond.code ⟨"RightsLimitModel", "<init>", "()V"⟩ prog_7_method_1_code 1 none :: rl_G) { frames := 1, cells := 26, slots := 5250, locals := 12 } D rl_cl (rl_tys kI kZ) [] [.ref h] [(h, .inr (5, [.int 0, .int 0, .int 0, .null, .null, .null, .null, .null, .null, .int 0, .null, .null, .null, .null, .int 0, .null, .null, .null, .null, .null, .int 0, .null, .null, .null, .null, .null, .null, .null, .null, .null, .null, .null, .int 0]))] sz (fun u : Nat → Nat => u 0 = h) (fun u => rm_w u kI kZ rm_F0) 26 5250 := by
  refine rl_metv (cc := prog_7_method_1_code) (maxL := 1) (ret := none) (by decide) rfl (Nat.le_of_ble_eq_true rfl) ?_
  intro p e s m below meth c A ls hx hb hr hml hown hts hlocks hnm hP hK hD hS hA hN hl
  have hown : s.vm.findClass "RightsLimitModel" = some m.cls := hown
  have hG : ∀ x ∈ rl_G, x.before _ s = true := fun x h => hts x (List.mem_cons_of_mem _ h)
  have hl : lv_has ls 1 [(0, .ref h)] := hl
  have hP : va_P D rl_cl [(h, .inr (5, [.int 0, .int 0, .int 0, .null, .null, .null, .null, .null, .null, .int 0, .null, .null, .null, .null, .int 0, .null, .null, .null, .null, .null, .int 0, .null, .null, .null, .null, .null, .null, .null, .null, .null, .null, .null, .int 0]))] s.heap := hP
  have hD : va_D A [(h, .inr (5, [.int 0, .int 0, .int 0, .null, .null, .null, .null, .null, .null, .int 0, .null, .null, .null, .null, .int 0, .null, .null, .null, .null, .null, .int 0, .null, .null, .null, .null, .null, .null, .null, .null, .null, .null, .null, .int 0]))] := hD
  refine lv_aload_n hx hb d_m_init_0 rfl (lv_at hl 0 rfl) ?_
  refine W.objInit hx hb hown (hG _ wd_482) (hG _ wd_30) (hG _ wd_31) rfl (by rw [hml]; exact hl.1) rfl d_m_init_1 (Nat.le_of_ble_eq_true rfl) (Nat.le_of_ble_eq_true rfl) ?_
  refine W.eq (g2 := F0 m 4 ls []) rfl ?_
  refine lv_aload_n hx hb d_m_init_4 rfl (lv_at hl 0 rfl) ?_
  refine lv_bipush (v := 50) hx hb d_m_init_5 (by decide) ?_
  refine rl_newa (atype := .int) (ty := .int) (N' := 50) (a0 := (50, .inl (fun _ => 0))) hx hb (hG _ wd_58) rfl (fun _ h9 => by cases h9) 0 rfl hK hP hD hS hA (fun _ => rfl) (by decide) (by decide) (by decide) (Nat.le_of_ble_eq_true rfl) (Nat.le_of_ble_eq_true rfl) d_m_init_7 (fun q0 H hP hD hS => ?_)
  have hP : va_P D rl_cl [(h, .inr (5, [.int 0, .int 0, .int 0, .null, .null, .null, .null, .null, .null, .int 0, .null, .null, .null, .null, .int 0, .null, .null, .null, .null, .null, .int 0, .null, .null, .null, .null, .null, .null, .null, .null, .null, .null, .null, .int 0])), (q0, .inl (kI, 50, .inl (fun _ => 0)))] H := hP
  have hD : va_D A [(h, .inr (5, [.int 0, .int 0, .int 0, .null, .null, .null, .null, .null, .null, .int 0, .null, .null, .null, .null, .int 0, .null, .null, .null, .null, .null, .int 0, .null, .null, .null, .null, .null, .null, .null, .null, .null, .null, .null, .int 0])), (q0, .inl (kI, 50, .inl (fun _ => 0)))] := hD
  refine va_putF (D := D) (ci := 5) (v := .ref q0) (ty := fy_m 3) (C := "RightsLimitModel") (T := fT_m) (N := 33) hx hb hG fi_m fy_m fo_m fn_m hown hK hP hD hS 0 rfl rfl 3 (by decide) (hG _ wd_486) (fun _ h9 => h9) rfl hnm rfl (fo_m 3 (by decide)) rfl rfl (Nat.le_of_ble_eq_true rfl) d_m_init_9 (fun H locs hP hD hS => ?_)
  have hP : va_P D rl_cl [(h, .inr (5, [.int 0, .int 0, .int 0, .ref q0, .null, .null, .null, .null, .null, .int 0, .null, .null, .null, .null, .int 0, .null, .null, .null, .null, .null, .int 0, .null, .null, .null, .null, .null, .null, .null, .null, .null, .null, .null, .int 0])), (q0, .inl (kI, 50, .inl (fun _ => 0)))] H := hP
  have hD : va_D A [(h, .inr (5, [.int 0, .int 0, .int 0, .ref q0, .null, .null, .null, .null, .null, .int 0, .null, .null, .null, .null, .int 0, .null, .null, .null, .null, .null, .int 0, .null, .null, .null, .null, .null, .null, .null, .null, .null, .null, .null, .int 0])), (q0, .inl (kI, 50, .inl (fun _ => 0)))] := hD
  refine lv_aload_n hx hb d_m_init_12 rfl (lv_at hl 0 rfl) ?_
  refine lv_bipush (v := 50) hx hb d_m_init_13 (by decide) ?_
  refine rl_newa (atype := .boolean) (ty := .boolean) (N' := 50) (a0 := (50, .inl (fun _ => 0))) hx hb (hG _ wd_59) rfl (fun _ h9 => by cases h9) 1 rfl hK hP hD hS hA (fun _ => rfl) (by decide) (by decide) (by decide) (Nat.le_of_ble_eq_true rfl) (Nat.le_of_ble_eq_true rfl) d_m_init_15 (fun q1 H hP hD hS => ?_)
  have hP : va_P D rl_cl [(h, .inr (5, [.int 0, .int 0, .int 0, .ref q0, .null, .null, .null, .null, .null, .int 0, .null, .null, .null, .null, .int 0, .null, .null, .null, .null, .null, .int 0, .null, .null, .null, .null, .null, .null, .null, .null, .null, .null, .null, .int 0])), (q0, .inl (kI, 50, .inl (fun _ => 0))), (q1, .inl (kZ, 50, .inl (fun _ => 0)))] H := hP
  have hD : va_D A [(h, .inr (5, [.int 0, .int 0, .int 0, .ref q0, .null, .null, .null, .null, .null, .int 0, .null, .null, .null, .null, .int 0, .null, .null, .null, .null, .null, .int 0, .null, .null, .null, .null, .null, .null, .null, .null, .null, .null, .null, .int 0])), (q0, .inl (kI, 50, .inl (fun _ => 0))), (q1, .inl (kZ, 50, .inl (fun _ => 0)))] := hD
  refine va_putF (D := D) (ci := 5) (v := .ref q1) (ty := fy_m 4) (C := "RightsLimitModel") (T := fT_m) (N := 33) hx hb hG fi_m fy_m fo_m fn_m hown hK hP hD hS 0 rfl rfl 4 (by decide) (hG _ wd_487) (fun _ h9 => h9) rfl hnm rfl (fo_m 4 (by decide)) rfl rfl (Nat.le_of_ble_eq_true rfl) d_m_init_17 (fun H locs hP hD hS => ?_)
  have hP : va_P D rl_cl [(h, .inr (5, [.int 0, .int 0, .int 0, .ref q0, .ref q1, .null, .null, .null, .null, .int 0, .null, .null, .null, .null, .int 0, .null, .null, .null, .null, .null, .int 0, .null, .null, .null, .null, .null, .null, .null, .null, .null, .null, .null, .int 0])), (q0, .inl (kI, 50, .inl (fun _ => 0))), (q1, .inl (kZ, 50, .inl (fun _ => 0)))] H := hP
  have hD : va_D A [(h, .inr (5, [.int 0, .int 0, .int 0, .ref q0, .ref q1, .null, .null, .null, .null, .int 0, .null, .null, .null, .null, .int 0, .null, .null, .null, .null, .null, .int 0, .null, .null, .null, .null, .null, .null, .null, .null, .null, .null, .null, .int 0])), (q0, .inl (kI, 50, .inl (fun _ => 0))), (q1, .inl (kZ, 50, .inl (fun _ => 0)))] := hD
  refine lv_aload_n hx hb d_m_init_20 rfl (lv_at hl 0 rfl) ?_
  refine lv_bipush (v := 50) hx hb d_m_init_21 (by decide) ?_
  refine rl_newa (atype := .int) (ty := .int) (N' := 50) (a0 := (50, .inl (fun _ => 0))) hx hb (hG _ wd_58) rfl (fun _ h9 => by cases h9) 0 rfl hK hP hD hS hA (fun _ => rfl) (by decide) (by decide) (by decide) (Nat.le_of_ble_eq_true rfl) (Nat.le_of_ble_eq_true rfl) d_m_init_23 (fun q2 H hP hD hS => ?_)
  have hP : va_P D rl_cl [(h, .inr (5, [.int 0, .int 0, .int 0, .ref q0, .ref q1, .null, .null, .null, .null, .int 0, .null, .null, .null, .null, .int 0, .null, .null, .null, .null, .null, .int 0, .null, .null, .null, .null, .null, .null, .null, .null, .null, .null, .null, .int 0])), (q0, .inl (kI, 50, .inl (fun _ => 0))), (q1, .inl (kZ, 50, .inl (fun _ => 0))), (q2, .inl (kI, 50, .inl (fun _ => 0)))] H := hP
  have hD : va_D A [(h, .inr (5, [.int 0, .int 0, .int 0, .ref q0, .ref q1, .null, .null, .null, .null, .int 0, .null, .null, .null, .null, .int 0, .null, .null, .null, .null, .null, .int 0, .null, .null, .null, .null, .null, .null, .null, .null, .null, .null, .null, .int 0])), (q0, .inl (kI, 50, .inl (fun _ => 0))), (q1, .inl (kZ, 50, .inl (fun _ => 0))), (q2, .inl (kI, 50, .inl (fun _ => 0)))] := hD
  refine va_putF (D := D) (ci := 5) (v := .ref q2) (ty := fy_m 5) (C := "RightsLimitModel") (T := fT_m) (N := 33) hx hb hG fi_m fy_m fo_m fn_m hown hK hP hD hS 0 rfl rfl 5 (by decide) (hG _ wd_488) (fun _ h9 => h9) rfl hnm rfl (fo_m 5 (by decide)) rfl rfl (Nat.le_of_ble_eq_true rfl) d_m_init_25 (fun H locs hP hD hS => ?_)
  have hP : va_P D rl_cl [(h, .inr (5, [.int 0, .int 0, .int 0, .ref q0, .ref q1, .ref q2, .null, .null, .null, .int 0, .null, .null, .null, .null, .int 0, .null, .null, .null, .null, .null, .int 0, .null, .null, .null, .null, .null, .null, .null, .null, .null, .null, .null, .int 0])), (q0, .inl (kI, 50, .inl (fun _ => 0))), (q1, .inl (kZ, 50, .inl (fun _ => 0))), (q2, .inl (kI, 50, .inl (fun _ => 0)))] H := hP
  have hD : va_D A [(h, .inr (5, [.int 0, .int 0, .int 0, .ref q0, .ref q1, .ref q2, .null, .null, .null, .int 0, .null, .null, .null, .null, .int 0, .null, .null, .null, .null, .null, .int 0, .null, .null, .null, .null, .null, .null, .null, .null, .null, .null, .null, .int 0])), (q0, .inl (kI, 50, .inl (fun _ => 0))), (q1, .inl (kZ, 50, .inl (fun _ => 0))), (q2, .inl (kI, 50, .inl (fun _ => 0)))] := hD
  refine lv_aload_n hx hb d_m_init_28 rfl (lv_at hl 0 rfl) ?_
  refine lv_bipush (v := 50) hx hb d_m_init_29 (by decide) ?_
  refine rl_newa (atype := .int) (ty := .int) (N' := 50) (a0 := (50, .inl (fun _ => 0))) hx hb (hG _ wd_58) rfl (fun _ h9 => by cases h9) 0 rfl hK hP hD hS hA (fun _ => rfl) (by decide) (by decide) (by decide) (Nat.le_of_ble_eq_true rfl) (Nat.le_of_ble_eq_true rfl) d_m_init_31 (fun q3 H hP hD hS => ?_)
  have hP : va_P D rl_cl [(h, .inr (5, [.int 0, .int 0, .int 0, .ref q0, .ref q1, .ref q2, .null, .null, .null, .int 0, .null, .null, .null, .null, .int 0, .null, .null, .null, .null, .null, .int 0, .null, .null, .null, .null, .null, .null, .null, .null, .null, .null, .null, .int 0])), (q0, .inl (kI, 50, .inl (fun _ => 0))), (q1, .inl (kZ, 50, .inl (fun _ => 0))), (q2, .inl (kI, 50, .inl (fun _ => 0))), (q3, .inl (kI, 50, .inl (fun _ => 0)))] H := hP
  have hD : va_D A [(h, .inr (5, [.int 0, .int 0, .int 0, .ref q0, .ref q1, .ref q2, .null, .null, .null, .int 0, .null, .null, .null, .null, .int 0, .null, .null, .null, .null, .null, .int 0, .null, .null, .null, .null, .null, .null, .null, .null, .null, .null, .null, .int 0])), (q0, .inl (kI, 50, .inl (fun _ => 0))), (q1, .inl (kZ, 50, .inl (fun _ => 0))), (q2, .inl (kI, 50, .inl (fun _ => 0))), (q3, .inl (kI, 50, .inl (fun _ => 0)))] := hD
  refine va_putF (D := D) (ci := 5) (v := .ref q3) (ty := fy_m 6) (C := "RightsLimitModel") (T := fT_m) (N := 33) hx hb hG fi_m fy_m fo_m fn_m hown hK hP hD hS 0 rfl rfl 6 (by decide) (hG _ wd_489) (fun _ h9 => h9) rfl hnm rfl (fo_m 6 (by decide)) rfl rfl (Nat.le_of_ble_eq_true rfl) d_m_init_33 (fun H locs hP hD hS => ?_)
  have hP : va_P D rl_cl [(h, .inr (5, [.int 0, .int 0, .int 0, .ref q0, .ref q1, .ref q2, .ref q3, .null, .null, .int 0, .null, .null, .null, .null, .int 0, .null, .null, .null, .null, .null, .int 0, .null, .null, .null, .null, .null, .null, .null, .null, .null, .null, .null, .int 0])), (q0, .inl (kI, 50, .inl (fun _ => 0))), (q1, .inl (kZ, 50, .inl (fun _ => 0))), (q2, .inl (kI, 50, .inl (fun _ => 0))), (q3, .inl (kI, 50, .inl (fun _ => 0)))] H := hP
  have hD : va_D A [(h, .inr (5, [.int 0, .int 0, .int 0, .ref q0, .ref q1, .ref q2, .ref q3, .null, .null, .int 0, .null, .null, .null, .null, .int 0, .null, .null, .null, .null, .null, .int 0, .null, .null, .null, .null, .null, .null, .null, .null, .null, .null, .null, .int 0])), (q0, .inl (kI, 50, .inl (fun _ => 0))), (q1, .inl (kZ, 50, .inl (fun _ => 0))), (q2, .inl (kI, 50, .inl (fun _ => 0))), (q3, .inl (kI, 50, .inl (fun _ => 0)))] := hD
  refine lv_aload_n hx hb d_m_init_36 rfl (lv_at hl 0 rfl) ?_
  refine lv_bipush (v := 100) hx hb d_m_init_37 (by decide) ?_
  refine rl_newa (atype := .int) (ty := .int) (N' := 100) (a0 := (100, .inl (fun _ => 0))) hx hb (hG _ wd_58) rfl (fun _ h9 => by cases h9) 0 rfl hK hP hD hS hA (fun _ => rfl) (by decide) (by decide) (by decide) (Nat.le_of_ble_eq_true rfl) (Nat.le_of_ble_eq_true rfl) d_m_init_39 (fun q4 H hP hD hS => ?_)
  have hP : va_P D rl_cl [(h, .inr (5, [.int 0, .int 0, .int 0, .ref q0, .ref q1, .ref q2, .ref q3, .null, .null, .int 0, .null, .null, .null, .null, .int 0, .null, .null, .null, .null, .null, .int 0, .null, .null, .null, .null, .null, .null, .null, .null, .null, .null, .null, .int 0])), (q0, .inl (kI, 50, .inl (fun _ => 0))), (q1, .inl (kZ, 50, .inl (fun _ => 0))), (q2, .inl (kI, 50, .inl (fun _ => 0))), (q3, .inl (kI, 50, .inl (fun _ => 0))), (q4, .inl (kI, 100, .inl (fun _ => 0)))] H := hP
  have hD : va_D A [(h, .inr (5, [.int 0, .int 0, .int 0, .ref q0, .ref q1, .ref q2, .ref q3, .null, .null, .int 0, .null, .null, .null, .null, .int 0, .null, .null, .null, .null, .null, .int 0, .null, .null, .null, .null, .null, .null, .null, .null, .null, .null, .null, .int 0])), (q0, .inl (kI, 50, .inl (fun _ => 0))), (q1, .inl (kZ, 50, .inl (fun _ => 0))), (q2, .inl (kI, 50, .inl (fun _ => 0))), (q3, .inl (kI, 50, .inl (fun _ => 0))), (q4, .inl (kI, 100, .inl (fun _ => 0)))] := hD
  refine va_putF (D := D) (ci := 5) (v := .ref q4) (ty := fy_m 7) (C := "RightsLimitModel") (T := fT_m) (N := 33) hx hb hG fi_m fy_m fo_m fn_m hown hK hP hD hS 0 rfl rfl 7 (by decide) (hG _ wd_490) (fun _ h9 => h9) rfl hnm rfl (fo_m 7 (by decide)) rfl rfl (Nat.le_of_ble_eq_true rfl) d_m_init_41 (fun H locs hP hD hS => ?_)
  have hP : va_P D rl_cl [(h, .inr (5, [.int 0, .int 0, .int 0, .ref q0, .ref q1, .ref q2, .ref q3, .ref q4, .null, .int 0, .null, .null, .null, .null, .int 0, .null, .null, .null, .null, .null, .int 0, .null, .null, .null, .null, .null, .null, .null, .null, .null, .null, .null, .int 0])), (q0, .inl (kI, 50, .inl (fun _ => 0))), (q1, .inl (kZ, 50, .inl (fun _ => 0))), (q2, .inl (kI, 50, .inl (fun _ => 0))), (q3, .inl (kI, 50, .inl (fun _ => 0))), (q4, .inl (kI, 100, .inl (fun _ => 0)))] H := hP
  have hD : va_D A [(h, .inr (5, [.int 0, .int 0, .int 0, .ref q0, .ref q1, .ref q2, .ref q3, .ref q4, .null, .int 0, .null, .null, .null, .null, .int 0, .null, .null, .null, .null, .null, .int 0, .null, .null, .null, .null, .null, .null, .null, .null, .null, .null, .null, .int 0])), (q0, .inl (kI, 50, .inl (fun _ => 0))), (q1, .inl (kZ, 50, .inl (fun _ => 0))), (q2, .inl (kI, 50, .inl (fun _ => 0))), (q3, .inl (kI, 50, .inl (fun _ => 0))), (q4, .inl (kI, 100, .inl (fun _ => 0)))] := hD
  refine lv_aload_n hx hb d_m_init_44 rfl (lv_at hl 0 rfl) ?_
  refine lv_sipush (v := 1000) hx hb d_m_init_45 (by decide) ?_
  refine rl_newa (atype := .boolean) (ty := .boolean) (N' := 1000) (a0 := (1000, .inl (fun _ => 0))) hx hb (hG _ wd_59) rfl (fun _ h9 => by cases h9) 1 rfl hK hP hD hS hA (fun _ => rfl) (by decide) (by decide) (by decide) (Nat.le_of_ble_eq_true rfl) (Nat.le_of_ble_eq_true rfl) d_m_init_48 (fun q5 H hP hD hS => ?_)
  have hP : va_P D rl_cl [(h, .inr (5, [.int 0, .int 0, .int 0, .ref q0, .ref q1, .ref q2, .ref q3, .ref q4, .null, .int 0, .null, .null, .null, .null, .int 0, .null, .null, .null, .null, .null, .int 0, .null, .null, .null, .null, .null, .null, .null, .null, .null, .null, .null, .int 0])), (q0, .inl (kI, 50, .inl (fun _ => 0))), (q1, .inl (kZ, 50, .inl (fun _ => 0))), (q2, .inl (kI, 50, .inl (fun _ => 0))), (q3, .inl (kI, 50, .inl (fun _ => 0))), (q4, .inl (kI, 100, .inl (fun _ => 0))), (q5, .inl (kZ, 1000, .inl (fun _ => 0)))] H := hP
  have hD : va_D A [(h, .inr (5, [.int 0, .int 0, .int 0, .ref q0, .ref q1, .ref q2, .ref q3, .ref q4, .null, .int 0, .null, .null, .null, .null, .int 0, .null, .null, .null, .null, .null, .int 0, .null, .null, .null, .null, .null, .null, .null, .null, .null, .null, .null, .int 0])), (q0, .inl (kI, 50, .inl (fun _ => 0))), (q1, .inl (kZ, 50, .inl (fun _ => 0))), (q2, .inl (kI, 50, .inl (fun _ => 0))), (q3, .inl (kI, 50, .inl (fun _ => 0))), (q4, .inl (kI, 100, .inl (fun _ => 0))), (q5, .inl (kZ, 1000, .inl (fun _ => 0)))] := hD
  refine va_putF (D := D) (ci := 5) (v := .ref q5) (ty := fy_m 8) (C := "RightsLimitModel") (T := fT_m) (N := 33) hx hb hG fi_m fy_m fo_m fn_m hown hK hP hD hS 0 rfl rfl 8 (by decide) (hG _ wd_491) (fun _ h9 => h9) rfl hnm rfl (fo_m 8 (by decide)) rfl rfl (Nat.le_of_ble_eq_true rfl) d_m_init_50 (fun H locs hP hD hS => ?_)
  have hP : va_P D rl_cl [(h, .inr (5, [.int 0, .int 0, .int 0, .ref q0, .ref q1, .ref q2, .ref q3, .ref q4, .ref q5, .int 0, .null, .null, .null, .null, .int 0, .null, .null, .null, .null, .null, .int 0, .null, .null, .null, .null, .null, .null, .null, .null, .null, .null, .null, .int 0])), (q0, .inl (kI, 50, .inl (fun _ => 0))), (q1, .inl (kZ, 50, .inl (fun _ => 0))), (q2, .inl (kI, 50, .inl (fun _ => 0))), (q3, .inl (kI, 50, .inl (fun _ => 0))), (q4, .inl (kI, 100, .inl (fun _ => 0))), (q5, .inl (kZ, 1000, .inl (fun _ => 0)))] H := hP
  have hD : va_D A [(h, .inr (5, [.int 0, .int 0, .int 0, .ref q0, .ref q1, .ref q2, .ref q3, .ref q4, .ref q5, .int 0, .null, .null, .null, .null, .int 0, .null, .null, .null, .null, .null, .int 0, .null, .null, .null, .null, .null, .null, .null, .null, .null, .null, .null, .int 0])), (q0, .inl (kI, 50, .inl (fun _ => 0))), (q1, .inl (kZ, 50, .inl (fun _ => 0))), (q2, .inl (kI, 50, .inl (fun _ => 0))), (q3, .inl (kI, 50, .inl (fun _ => 0))), (q4, .inl (kI, 100, .inl (fun _ => 0))), (q5, .inl (kZ, 1000, .inl (fun _ => 0)))] := hD
  refine lv_aload_n hx hb d_m_init_53 rfl (lv_at hl 0 rfl) ?_
  refine lv_bipush (v := 100) hx hb d_m_init_54 (by decide) ?_
  refine rl_newa (atype := .int) (ty := .int) (N' := 100) (a0 := (100, .inl (fun _ => 0))) hx hb (hG _ wd_58) rfl (fun _ h9 => by cases h9) 0 rfl hK hP hD hS hA (fun _ => rfl) (by decide) (by decide) (by decide) (Nat.le_of_ble_eq_true rfl) (Nat.le_of_ble_eq_true rfl) d_m_init_56 (fun q6 H hP hD hS => ?_)
  have hP : va_P D rl_cl [(h, .inr (5, [.int 0, .int 0, .int 0, .ref q0, .ref q1, .ref q2, .ref q3, .ref q4, .ref q5, .int 0, .null, .null, .null, .null, .int 0, .null, .null, .null, .null, .null, .int 0, .null, .null, .null, .null, .null, .null, .null, .null, .null, .null, .null, .int 0])), (q0, .inl (kI, 50, .inl (fun _ => 0))), (q1, .inl (kZ, 50, .inl (fun _ => 0))), (q2, .inl (kI, 50, .inl (fun _ => 0))), (q3, .inl (kI, 50, .inl (fun _ => 0))), (q4, .inl (kI, 100, .inl (fun _ => 0))), (q5, .inl (kZ, 1000, .inl (fun _ => 0))), (q6, .inl (kI, 100, .inl (fun _ => 0)))] H := hP
  have hD : va_D A [(h, .inr (5, [.int 0, .int 0, .int 0, .ref q0, .ref q1, .ref q2, .ref q3, .ref q4, .ref q5, .int 0, .null, .null, .null, .null, .int 0, .null, .null, .null, .null, .null, .int 0, .null, .null, .null, .null, .null, .null, .null, .null, .null, .null, .null, .int 0])), (q0, .inl (kI, 50, .inl (fun _ => 0))), (q1, .inl (kZ, 50, .inl (fun _ => 0))), (q2, .inl (kI, 50, .inl (fun _ => 0))), (q3, .inl (kI, 50, .inl (fun _ => 0))), (q4, .inl (kI, 100, .inl (fun _ => 0))), (q5, .inl (kZ, 1000, .inl (fun _ => 0))), (q6, .inl (kI, 100, .inl (fun _ => 0)))] := hD
  refine va_putF (D := D) (ci := 5) (v := .ref q6) (ty := fy_m 10) (C := "RightsLimitModel") (T := fT_m) (N := 33) hx hb hG fi_m fy_m fo_m fn_m hown hK hP hD hS 0 rfl rfl 10 (by decide) (hG _ wd_493) (fun _ h9 => h9) rfl hnm rfl (fo_m 10 (by decide)) rfl rfl (Nat.le_of_ble_eq_true rfl) d_m_init_58 (fun H locs hP hD hS => ?_)
  have hP : va_P D rl_cl [(h, .inr (5, [.int 0, .int 0, .int 0, .ref q0, .ref q1, .ref q2, .ref q3, .ref q4, .ref q5, .int 0, .ref q6, .null, .null, .null, .int 0, .null, .null, .null, .null, .null, .int 0, .null, .null, .null, .null, .null, .null, .null, .null, .null, .null, .null, .int 0])), (q0, .inl (kI, 50, .inl (fun _ => 0))), (q1, .inl (kZ, 50, .inl (fun _ => 0))), (q2, .inl (kI, 50, .inl (fun _ => 0))), (q3, .inl (kI, 50, .inl (fun _ => 0))), (q4, .inl (kI, 100, .inl (fun _ => 0))), (q5, .inl (kZ, 1000, .inl (fun _ => 0))), (q6, .inl (kI, 100, .inl (fun _ => 0)))] H := hP
  have hD : va_D A [(h, .inr (5, [.int 0, .int 0, .int 0, .ref q0, .ref q1, .ref q2, .ref q3, .ref q4, .ref q5, .int 0, .ref q6, .null, .null, .null, .int 0, .null, .null, .null, .null, .null, .int 0, .null, .null, .null, .null, .null, .null, .null, .null, .null, .null, .null, .int 0])), (q0, .inl (kI, 50, .inl (fun _ => 0))), (q1, .inl (kZ, 50, .inl (fun _ => 0))), (q2, .inl (kI, 50, .inl (fun _ => 0))), (q3, .inl (kI, 50, .inl (fun _ => 0))), (q4, .inl (kI, 100, .inl (fun _ => 0))), (q5, .inl (kZ, 1000, .inl (fun _ => 0))), (q6, .inl (kI, 100, .inl (fun _ => 0)))] := hD
  refine lv_aload_n hx hb d_m_init_61 rfl (lv_at hl 0 rfl) ?_
  refine lv_bipush (v := 100) hx hb d_m_init_62 (by decide) ?_
  refine rl_newa (atype := .int) (ty := .int) (N' := 100) (a0 := (100, .inl (fun _ => 0))) hx hb (hG _ wd_58) rfl (fun _ h9 => by cases h9) 0 rfl hK hP hD hS hA (fun _ => rfl) (by decide) (by decide) (by decide) (Nat.le_of_ble_eq_true rfl) (Nat.le_of_ble_eq_true rfl) d_m_init_64 (fun q7 H hP hD hS => ?_)
  have hP : va_P D rl_cl [(h, .inr (5, [.int 0, .int 0, .int 0, .ref q0, .ref q1, .ref q2, .ref q3, .ref q4, .ref q5, .int 0, .ref q6, .null, .null, .null, .int 0, .null, .null, .null, .null, .null, .int 0, .null, .null, .null, .null, .null, .null, .null, .null, .null, .null, .null, .int 0])), (q0, .inl (kI, 50, .inl (fun _ => 0))), (q1, .inl (kZ, 50, .inl (fun _ => 0))), (q2, .inl (kI, 50, .inl (fun _ => 0))), (q3, .inl (kI, 50, .inl (fun _ => 0))), (q4, .inl (kI, 100, .inl (fun _ => 0))), (q5, .inl (kZ, 1000, .inl (fun _ => 0))), (q6, .inl (kI, 100, .inl (fun _ => 0))), (q7, .inl (kI, 100, .inl (fun _ => 0)))] H := hP
  have hD : va_D A [(h, .inr (5, [.int 0, .int 0, .int 0, .ref q0, .ref q1, .ref q2, .ref q3, .ref q4, .ref q5, .int 0, .ref q6, .null, .null, .null, .int 0, .null, .null, .null, .null, .null, .int 0, .null, .null, .null, .null, .null, .null, .null, .null, .null, .null, .null, .int 0])), (q0, .inl (kI, 50, .inl (fun _ => 0))), (q1, .inl (kZ, 50, .inl (fun _ => 0))), (q2, .inl (kI, 50, .inl (fun _ => 0))), (q3, .inl (kI, 50, .inl (fun _ => 0))), (q4, .inl (kI, 100, .inl (fun _ => 0))), (q5, .inl (kZ, 1000, .inl (fun _ => 0))), (q6, .inl (kI, 100, .inl (fun _ => 0))), (q7, .inl (kI, 100, .inl (fun _ => 0)))] := hD
  refine va_putF (D := D) (ci := 5) (v := .ref q7) (ty := fy_m 11) (C := "RightsLimitModel") (T := fT_m) (N := 33) hx hb hG fi_m fy_m fo_m fn_m hown hK hP hD hS 0 rfl rfl 11 (by decide) (hG _ wd_494) (fun _ h9 => h9) rfl hnm rfl (fo_m 11 (by decide)) rfl rfl (Nat.le_of_ble_eq_true rfl) d_m_init_66 (fun H locs hP hD hS => ?_)
  have hP : va_P D rl_cl [(h, .inr (5, [.int 0, .int 0, .int 0, .ref q0, .ref q1, .ref q2, .ref q3, .ref q4, .ref q5, .int 0, .ref q6, .ref q7, .null, .null, .int 0, .null, .null, .null, .null, .null, .int 0, .null, .null, .null, .null, .null, .null, .null, .null, .null, .null, .null, .int 0])), (q0, .inl (kI, 50, .inl (fun _ => 0))), (q1, .inl (kZ, 50, .inl (fun _ => 0))), (q2, .inl (kI, 50, .inl (fun _ => 0))), (q3, .inl (kI, 50, .inl (fun _ => 0))), (q4, .inl (kI, 100, .inl (fun _ => 0))), (q5, .inl (kZ, 1000, .inl (fun _ => 0))), (q6, .inl (kI, 100, .inl (fun _ => 0))), (q7, .inl (kI, 100, .inl (fun _ => 0)))] H := hP
  have hD : va_D A [(h, .inr (5, [.int 0, .int 0, .int 0, .ref q0, .ref q1, .ref q2, .ref q3, .ref q4, .ref q5, .int 0, .ref q6, .ref q7, .null, .null, .int 0, .null, .null, .null, .null, .null, .int 0, .null, .null, .null, .null, .null, .null, .null, .null, .null, .null, .null, .int 0])), (q0, .inl (kI, 50, .inl (fun _ => 0))), (q1, .inl (kZ, 50, .inl (fun _ => 0))), (q2, .inl (kI, 50, .inl (fun _ => 0))), (q3, .inl (kI, 50, .inl (fun _ => 0))), (q4, .inl (kI, 100, .inl (fun _ => 0))), (q5, .inl (kZ, 1000, .inl (fun _ => 0))), (q6, .inl (kI, 100, .inl (fun _ => 0))), (q7, .inl (kI, 100, .inl (fun _ => 0)))] := hD
  refine lv_aload_n hx hb d_m_init_69 rfl (lv_at hl 0 rfl) ?_
  refine lv_bipush (v := 100) hx hb d_m_init_70 (by decide) ?_
  refine rl_newa (atype := .int) (ty := .int) (N' := 100) (a0 := (100, .inl (fun _ => 0))) hx hb (hG _ wd_58) rfl (fun _ h9 => by cases h9) 0 rfl hK hP hD hS hA (fun _ => rfl) (by decide) (by decide) (by decide) (Nat.le_of_ble_eq_true rfl) (Nat.le_of_ble_eq_true rfl) d_m_init_72 (fun q8 H hP hD hS => ?_)
  have hP : va_P D rl_cl [(h, .inr (5, [.int 0, .int 0, .int 0, .ref q0, .ref q1, .ref q2, .ref q3, .ref q4, .ref q5, .int 0, .ref q6, .ref q7, .null, .null, .int 0, .null, .null, .null, .null, .null, .int 0, .null, .null, .null, .null, .null, .null, .null, .null, .null, .null, .null, .int 0])), (q0, .inl (kI, 50, .inl (fun _ => 0))), (q1, .inl (kZ, 50, .inl (fun _ => 0))), (q2, .inl (kI, 50, .inl (fun _ => 0))), (q3, .inl (kI, 50, .inl (fun _ => 0))), (q4, .inl (kI, 100, .inl (fun _ => 0))), (q5, .inl (kZ, 1000, .inl (fun _ => 0))), (q6, .inl (kI, 100, .inl (fun _ => 0))), (q7, .inl (kI, 100, .inl (fun _ => 0))), (q8, .inl (kI, 100, .inl (fun _ => 0)))] H := hP
  have hD : va_D A [(h, .inr (5, [.int 0, .int 0, .int 0, .ref q0, .ref q1, .ref q2, .ref q3, .ref q4, .ref q5, .int 0, .ref q6, .ref q7, .null, .null, .int 0, .null, .null, .null, .null, .null, .int 0, .null, .null, .null, .null, .null, .null, .null, .null, .null, .null, .null, .int 0])), (q0, .inl (kI, 50, .inl (fun _ => 0))), (q1, .inl (kZ, 50, .inl (fun _ => 0))), (q2, .inl (kI, 50, .inl (fun _ => 0))), (q3, .inl (kI, 50, .inl (fun _ => 0))), (q4, .inl (kI, 100, .inl (fun _ => 0))), (q5, .inl (kZ, 1000, .inl (fun _ => 0))), (q6, .inl (kI, 100, .inl (fun _ => 0))), (q7, .inl (kI, 100, .inl (fun _ => 0))), (q8, .inl (kI, 100, .inl (fun _ => 0)))] := hD
  refine va_putF (D := D) (ci := 5) (v := .ref q8) (ty := fy_m 12) (C := "RightsLimitModel") (T := fT_m) (N := 33) hx hb hG fi_m fy_m fo_m fn_m hown hK hP hD hS 0 rfl rfl 12 (by decide) (hG _ wd_495) (fun _ h9 => h9) rfl hnm rfl (fo_m 12 (by decide)) rfl rfl (Nat.le_of_ble_eq_true rfl) d_m_init_74 (fun H locs hP hD hS => ?_)
  have hP : va_P D rl_cl [(h, .inr (5, [.int 0, .int 0, .int 0, .ref q0, .ref q1, .ref q2, .ref q3, .ref q4, .ref q5, .int 0, .ref q6, .ref q7, .ref q8, .null, .int 0, .null, .null, .null, .null, .null, .int 0, .null, .null, .null, .null, .null, .null, .null, .null, .null, .null, .null, .int 0])), (q0, .inl (kI, 50, .inl (fun _ => 0))), (q1, .inl (kZ, 50, .inl (fun _ => 0))), (q2, .inl (kI, 50, .inl (fun _ => 0))), (q3, .inl (kI, 50, .inl (fun _ => 0))), (q4, .inl (kI, 100, .inl (fun _ => 0))), (q5, .inl (kZ, 1000, .inl (fun _ => 0))), (q6, .inl (kI, 100, .inl (fun _ => 0))), (q7, .inl (kI, 100, .inl (fun _ => 0))), (q8, .inl (kI, 100, .inl (fun _ => 0)))] H := hP
  have hD : va_D A [(h, .inr (5, [.int 0, .int 0, .int 0, .ref q0, .ref q1, .ref q2, .ref q3, .ref q4, .ref q5, .int 0, .ref q6, .ref q7, .ref q8, .null, .int 0, .null, .null, .null, .null, .null, .int 0, .null, .null, .null, .null, .null, .null, .null, .null, .null, .null, .null, .int 0])), (q0, .inl (kI, 50, .inl (fun _ => 0))), (q1, .inl (kZ, 50, .inl (fun _ => 0))), (q2, .inl (kI, 50, .inl (fun _ => 0))), (q3, .inl (kI, 50, .inl (fun _ => 0))), (q4, .inl (kI, 100, .inl (fun _ => 0))), (q5, .inl (kZ, 1000, .inl (fun _ => 0))), (q6, .inl (kI, 100, .inl (fun _ => 0))), (q7, .inl (kI, 100, .inl (fun _ => 0))), (q8, .inl (kI, 100, .inl (fun _ => 0)))] := hD
  refine lv_aload_n hx hb d_m_init_77 rfl (lv_at hl 0 rfl) ?_
  refine lv_bipush (v := 100) hx hb d_m_init_78 (by decide) ?_
  refine rl_newa (atype := .int) (ty := .int) (N' := 100) (a0 := (100, .inl (fun _ => 0))) hx hb (hG _ wd_58) rfl (fun _ h9 => by cases h9) 0 rfl hK hP hD hS hA (fun _ => rfl) (by decide) (by decide) (by decide) (Nat.le_of_ble_eq_true rfl) (Nat.le_of_ble_eq_true rfl) d_m_init_80 (fun q9 H hP hD hS => ?_)
  have hP : va_P D rl_cl [(h, .inr (5, [.int 0, .int 0, .int 0, .ref q0, .ref q1, .ref q2, .ref q3, .ref q4, .ref q5, .int 0, .ref q6, .ref q7, .ref q8, .null, .int 0, .null, .null, .null, .null, .null, .int 0, .null, .null, .null, .null, .null, .null, .null, .null, .null, .null, .null, .int 0])), (q0, .inl (kI, 50, .inl (fun _ => 0))), (q1, .inl (kZ, 50, .inl (fun _ => 0))), (q2, .inl (kI, 50, .inl (fun _ => 0))), (q3, .inl (kI, 50, .inl (fun _ => 0))), (q4, .inl (kI, 100, .inl (fun _ => 0))), (q5, .inl (kZ, 1000, .inl (fun _ => 0))), (q6, .inl (kI, 100, .inl (fun _ => 0))), (q7, .inl (kI, 100, .inl (fun _ => 0))), (q8, .inl (kI, 100, .inl (fun _ => 0))), (q9, .inl (kI, 100, .inl (fun _ => 0)))] H := hP
  have hD : va_D A [(h, .inr (5, [.int 0, .int 0, .int 0, .ref q0, .ref q1, .ref q2, .ref q3, .ref q4, .ref q5, .int 0, .ref q6, .ref q7, .ref q8, .null, .int 0, .null, .null, .null, .null, .null, .int 0, .null, .null, .null, .null, .null, .null, .null, .null, .null, .null, .null, .int 0])), (q0, .inl (kI, 50, .inl (fun _ => 0))), (q1, .inl (kZ, 50, .inl (fun _ => 0))), (q2, .inl (kI, 50, .inl (fun _ => 0))), (q3, .inl (kI, 50, .inl (fun _ => 0))), (q4, .inl (kI, 100, .inl (fun _ => 0))), (q5, .inl (kZ, 1000, .inl (fun _ => 0))), (q6, .inl (kI, 100, .inl (fun _ => 0))), (q7, .inl (kI, 100, .inl (fun _ => 0))), (q8, .inl (kI, 100, .inl (fun _ => 0))), (q9, .inl (kI, 100, .inl (fun _ => 0)))] := hD
  refine va_putF (D := D) (ci := 5) (v := .ref q9) (ty := fy_m 13) (C := "RightsLimitModel") (T := fT_m) (N := 33) hx hb hG fi_m fy_m fo_m fn_m hown hK hP hD hS 0 rfl rfl 13 (by decide) (hG _ wd_496) (fun _ h9 => h9) rfl hnm rfl (fo_m 13 (by decide)) rfl rfl (Nat.le_of_ble_eq_true rfl) d_m_init_82 (fun H locs hP hD hS => ?_)
  have hP : va_P D rl_cl [(h, .inr (5, [.int 0, .int 0, .int 0, .ref q0, .ref q1, .ref q2, .ref q3, .ref q4, .ref q5, .int 0, .ref q6, .ref q7, .ref q8, .ref q9, .int 0, .null, .null, .null, .null, .null, .int 0, .null, .null, .null, .null, .null, .null, .null, .null, .null, .null, .null, .int 0])), (q0, .inl (kI, 50, .inl (fun _ => 0))), (q1, .inl (kZ, 50, .inl (fun _ => 0))), (q2, .inl (kI, 50, .inl (fun _ => 0))), (q3, .inl (kI, 50, .inl (fun _ => 0))), (q4, .inl (kI, 100, .inl (fun _ => 0))), (q5, .inl (kZ, 1000, .inl (fun _ => 0))), (q6, .inl (kI, 100, .inl (fun _ => 0))), (q7, .inl (kI, 100, .inl (fun _ => 0))), (q8, .inl (kI, 100, .inl (fun _ => 0))), (q9, .inl (kI, 100, .inl (fun _ => 0)))] H := hP
  have hD : va_D A [(h, .inr (5, [.int 0, .int 0, .int 0, .ref q0, .ref q1, .ref q2, .ref q3, .ref q4, .ref q5, .int 0, .ref q6, .ref q7, .ref q8, .ref q9, .int 0, .null, .null, .null, .null, .null, .int 0, .null, .null, .null, .null, .null, .null, .null, .null, .null, .null, .null, .int 0])), (q0, .inl (kI, 50, .inl (fun _ => 0))), (q1, .inl (kZ, 50, .inl (fun _ => 0))), (q2, .inl (kI, 50, .inl (fun _ => 0))), (q3, .inl (kI, 50, .inl (fun _ => 0))), (q4, .inl (kI, 100, .inl (fun _ => 0))), (q5, .inl (kZ, 1000, .inl (fun _ => 0))), (q6, .inl (kI, 100, .inl (fun _ => 0))), (q7, .inl (kI, 100, .inl (fun _ => 0))), (q8, .inl (kI, 100, .inl (fun _ => 0))), (q9, .inl (kI, 100, .inl (fun _ => 0)))] := hD
  refine lv_aload_n hx hb d_m_init_85 rfl (lv_at hl 0 rfl) ?_
  refine lv_bipush (v := 50) hx hb d_m_init_86 (by decide) ?_
  refine rl_newa (atype := .int) (ty := .int) (N' := 50) (a0 := (50, .inl (fun _ => 0))) hx hb (hG _ wd_58) rfl (fun _ h9 => by cases h9) 0 rfl hK hP hD hS hA (fun _ => rfl) (by decide) (by decide) (by decide) (Nat.le_of_ble_eq_true rfl) (Nat.le_of_ble_eq_true rfl) d_m_init_88 (fun q10 H hP hD hS => ?_)
  have hP : va_P D rl_cl [(h, .inr (5, [.int 0, .int 0, .int 0, .ref q0, .ref q1, .ref q2, .ref q3, .ref q4, .ref q5, .int 0, .ref q6, .ref q7, .ref q8, .ref q9, .int 0, .null, .null, .null, .null, .null, .int 0, .null, .null, .null, .null, .null, .null, .null, .null, .null, .null, .null, .int 0])), (q0, .inl (kI, 50, .inl (fun _ => 0))), (q1, .inl (kZ, 50, .inl (fun _ => 0))), (q2, .inl (kI, 50, .inl (fun _ => 0))), (q3, .inl (kI, 50, .inl (fun _ => 0))), (q4, .inl (kI, 100, .inl (fun _ => 0))), (q5, .inl (kZ, 1000, .inl (fun _ => 0))), (q6, .inl (kI, 100, .inl (fun _ => 0))), (q7, .inl (kI, 100, .inl (fun _ => 0))), (q8, .inl (kI, 100, .inl (fun _ => 0))), (q9, .inl (kI, 100, .inl (fun _ => 0))), (q10, .inl (kI, 50, .inl (fun _ => 0)))] H := hP
  have hD : va_D A [(h, .inr (5, [.int 0, .int 0, .int 0, .ref q0, .ref q1, .ref q2, .ref q3, .ref q4, .ref q5, .int 0, .ref q6, .ref q7, .ref q8, .ref q9, .int 0, .null, .null, .null, .null, .null, .int 0, .null, .null, .null, .null, .null, .null, .null, .null, .null, .null, .null, .int 0])), (q0, .inl (kI, 50, .inl (fun _ => 0))), (q1, .inl (kZ, 50, .inl (fun _ => 0))), (q2, .inl (kI, 50, .inl (fun _ => 0))), (q3, .inl (kI, 50, .inl (fun _ => 0))), (q4, .inl (kI, 100, .inl (fun _ => 0))), (q5, .inl (kZ, 1000, .inl (fun _ => 0))), (q6, .inl (kI, 100, .inl (fun _ => 0))), (q7, .inl (kI, 100, .inl (fun _ => 0))), (q8, .inl (kI, 100, .inl (fun _ => 0))), (q9, .inl (kI, 100, .inl (fun _ => 0))), (q10, .inl (kI, 50, .inl (fun _ => 0)))] := hD
  refine va_putF (D := D) (ci := 5) (v := .ref q10) (ty := fy_m 15) (C := "RightsLimitModel") (T := fT_m) (N := 33) hx hb hG fi_m fy_m fo_m fn_m hown hK hP hD hS 0 rfl rfl 15 (by decide) (hG _ wd_498) (fun _ h9 => h9) rfl hnm rfl (fo_m 15 (by decide)) rfl rfl (Nat.le_of_ble_eq_true rfl) d_m_init_90 (fun H locs hP hD hS => ?_)
  have hP : va_P D rl_cl [(h, .inr (5, [.int 0, .int 0, .int 0, .ref q0, .ref q1, .ref q2, .ref q3, .ref q4, .ref q5, .int 0, .ref q6, .ref q7, .ref q8, .ref q9, .int 0, .ref q10, .null, .null, .null, .null, .int 0, .null, .null, .null, .null, .null, .null, .null, .null, .null, .null, .null, .int 0])), (q0, .inl (kI, 50, .inl (fun _ => 0))), (q1, .inl (kZ, 50, .inl (fun _ => 0))), (q2, .inl (kI, 50, .inl (fun _ => 0))), (q3, .inl (kI, 50, .inl (fun _ => 0))), (q4, .inl (kI, 100, .inl (fun _ => 0))), (q5, .inl (kZ, 1000, .inl (fun _ => 0))), (q6, .inl (kI, 100, .inl (fun _ => 0))), (q7, .inl (kI, 100, .inl (fun _ => 0))), (q8, .inl (kI, 100, .inl (fun _ => 0))), (q9, .inl (kI, 100, .inl (fun _ => 0))), (q10, .inl (kI, 50, .inl (fun _ => 0)))] H := hP
  have hD : va_D A [(h, .inr (5, [.int 0, .int 0, .int 0, .ref q0, .ref q1, .ref q2, .ref q3, .ref q4, .ref q5, .int 0, .ref q6, .ref q7, .ref q8, .ref q9, .int 0, .ref q10, .null, .null, .null, .null, .int 0, .null, .null, .null, .null, .null, .null, .null, .null, .null, .null, .null, .int 0])), (q0, .inl (kI, 50, .inl (fun _ => 0))), (q1, .inl (kZ, 50, .inl (fun _ => 0))), (q2, .inl (kI, 50, .inl (fun _ => 0))), (q3, .inl (kI, 50, .inl (fun _ => 0))), (q4, .inl (kI, 100, .inl (fun _ => 0))), (q5, .inl (kZ, 1000, .inl (fun _ => 0))), (q6, .inl (kI, 100, .inl (fun _ => 0))), (q7, .inl (kI, 100, .inl (fun _ => 0))), (q8, .inl (kI, 100, .inl (fun _ => 0))), (q9, .inl (kI, 100, .inl (fun _ => 0))), (q10, .inl (kI, 50, .inl (fun _ => 0)))] := hD
  refine lv_aload_n hx hb d_m_init_93 rfl (lv_at hl 0 rfl) ?_
  refine lv_bipush (v := 50) hx hb d_m_init_94 (by decide) ?_
  refine rl_newa (atype := .int) (ty := .int) (N' := 50) (a0 := (50, .inl (fun _ => 0))) hx hb (hG _ wd_58) rfl (fun _ h9 => by cases h9) 0 rfl hK hP hD hS hA (fun _ => rfl) (by decide) (by decide) (by decide) (Nat.le_of_ble_eq_true rfl) (Nat.le_of_ble_eq_true rfl) d_m_init_96 (fun q11 H hP hD hS => ?_)
  have hP : va_P D rl_cl [(h, .inr (5, [.int 0, .int 0, .int 0, .ref q0, .ref q1, .ref q2, .ref q3, .ref q4, .ref q5, .int 0, .ref q6, .ref q7, .ref q8, .ref q9, .int 0, .ref q10, .null, .null, .null, .null, .int 0, .null, .null, .null, .null, .null, .null, .null, .null, .null, .null, .null, .int 0])), (q0, .inl (kI, 50, .inl (fun _ => 0))), (q1, .inl (kZ, 50, .inl (fun _ => 0))), (q2, .inl (kI, 50, .inl (fun _ => 0))), (q3, .inl (kI, 50, .inl (fun _ => 0))), (q4, .inl (kI, 100, .inl (fun _ => 0))), (q5, .inl (kZ, 1000, .inl (fun _ => 0))), (q6, .inl (kI, 100, .inl (fun _ => 0))), (q7, .inl (kI, 100, .inl (fun _ => 0))), (q8, .inl (kI, 100, .inl (fun _ => 0))), (q9, .inl (kI, 100, .inl (fun _ => 0))), (q10, .inl (kI, 50, .inl (fun _ => 0))), (q11, .inl (kI, 50, .inl (fun _ => 0)))] H := hP
  have hD : va_D A [(h, .inr (5, [.int 0, .int 0, .int 0, .ref q0, .ref q1, .ref q2, .ref q3, .ref q4, .ref q5, .int 0, .ref q6, .ref q7, .ref q8, .ref q9, .int 0, .ref q10, .null, .null, .null, .null, .int 0, .null, .null, .null, .null, .null, .null, .null, .null, .null, .null, .null, .int 0])), (q0, .inl (kI, 50, .inl (fun _ => 0))), (q1, .inl (kZ, 50, .inl (fun _ => 0))), (q2, .inl (kI, 50, .inl (fun _ => 0))), (q3, .inl (kI, 50, .inl (fun _ => 0))), (q4, .inl (kI, 100, .inl (fun _ => 0))), (q5, .inl (kZ, 1000, .inl (fun _ => 0))), (q6, .inl (kI, 100, .inl (fun _ => 0))), (q7, .inl (kI, 100, .inl (fun _ => 0))), (q8, .inl (kI, 100, .inl (fun _ => 0))), (q9, .inl (kI, 100, .inl (fun _ => 0))), (q10, .inl (kI, 50, .inl (fun _ => 0))), (q11, .inl (kI, 50, .inl (fun _ => 0)))] := hD
  refine va_putF (D := D) (ci := 5) (v := .ref q11) (ty := fy_m 16) (C := "RightsLimitModel") (T := fT_m) (N := 33) hx hb hG fi_m fy_m fo_m fn_m hown hK hP hD hS 0 rfl rfl 16 (by decide) (hG _ wd_499) (fun _ h9 => h9) rfl hnm rfl (fo_m 16 (by decide)) rfl rfl (Nat.le_of_ble_eq_true rfl) d_m_init_98 (fun H locs hP hD hS => ?_)
  have hP : va_P D rl_cl [(h, .inr (5, [.int 0, .int 0, .int 0, .ref q0, .ref q1, .ref q2, .ref q3, .ref q4, .ref q5, .int 0, .ref q6, .ref q7, .ref q8, .ref q9, .int 0, .ref q10, .ref q11, .null, .null, .null, .int 0, .null, .null, .null, .null, .null, .null, .null, .null, .null, .null, .null, .int 0])), (q0, .inl (kI, 50, .inl (fun _ => 0))), (q1, .inl (kZ, 50, .inl (fun _ => 0))), (q2, .inl (kI, 50, .inl (fun _ => 0))), (q3, .inl (kI, 50, .inl (fun _ => 0))), (q4, .inl (kI, 100, .inl (fun _ => 0))), (q5, .inl (kZ, 1000, .inl (fun _ => 0))), (q6, .inl (kI, 100, .inl (fun _ => 0))), (q7, .inl (kI, 100, .inl (fun _ => 0))), (q8, .inl (kI, 100, .inl (fun _ => 0))), (q9, .inl (kI, 100, .inl (fun _ => 0))), (q10, .inl (kI, 50, .inl (fun _ => 0))), (q11, .inl (kI, 50, .inl (fun _ => 0)))] H := hP
  have hD : va_D A [(h, .inr (5, [.int 0, .int 0, .int 0, .ref q0, .ref q1, .ref q2, .ref q3, .ref q4, .ref q5, .int 0, .ref q6, .ref q7, .ref q8, .ref q9, .int 0, .ref q10, .ref q11, .null, .null, .null, .int 0, .null, .null, .null, .null, .null, .null, .null, .null, .null, .null, .null, .int 0])), (q0, .inl (kI, 50, .inl (fun _ => 0))), (q1, .inl (kZ, 50, .inl (fun _ => 0))), (q2, .inl (kI, 50, .inl (fun _ => 0))), (q3, .inl (kI, 50, .inl (fun _ => 0))), (q4, .inl (kI, 100, .inl (fun _ => 0))), (q5, .inl (kZ, 1000, .inl (fun _ => 0))), (q6, .inl (kI, 100, .inl (fun _ => 0))), (q7, .inl (kI, 100, .inl (fun _ => 0))), (q8, .inl (kI, 100, .inl (fun _ => 0))), (q9, .inl (kI, 100, .inl (fun _ => 0))), (q10, .inl (kI, 50, .inl (fun _ => 0))), (q11, .inl (kI, 50, .inl (fun _ => 0)))] := hD
  refine lv_aload_n hx hb d_m_init_101 rfl (lv_at hl 0 rfl) ?_
  refine lv_bipush (v := 50) hx hb d_m_init_102 (by decide) ?_
  refine rl_newa (atype := .int) (ty := .int) (N' := 50) (a0 := (50, .inl (fun _ => 0))) hx hb (hG _ wd_58) rfl (fun _ h9 => by cases h9) 0 rfl hK hP hD hS hA (fun _ => rfl) (by decide) (by decide) (by decide) (Nat.le_of_ble_eq_true rfl) (Nat.le_of_ble_eq_true rfl) d_m_init_104 (fun q12 H hP hD hS => ?_)
  have hP : va_P D rl_cl [(h, .inr (5, [.int 0, .int 0, .int 0, .ref q0, .ref q1, .ref q2, .ref q3, .ref q4, .ref q5, .int 0, .ref q6, .ref q7, .ref q8, .ref q9, .int 0, .ref q10, .ref q11, .null, .null, .null, .int 0, .null, .null, .null, .null, .null, .null, .null, .null, .null, .null, .null, .int 0])), (q0, .inl (kI, 50, .inl (fun _ => 0))), (q1, .inl (kZ, 50, .inl (fun _ => 0))), (q2, .inl (kI, 50, .inl (fun _ => 0))), (q3, .inl (kI, 50, .inl (fun _ => 0))), (q4, .inl (kI, 100, .inl (fun _ => 0))), (q5, .inl (kZ, 1000, .inl (fun _ => 0))), (q6, .inl (kI, 100, .inl (fun _ => 0))), (q7, .inl (kI, 100, .inl (fun _ => 0))), (q8, .inl (kI, 100, .inl (fun _ => 0))), (q9, .inl (kI, 100, .inl (fun _ => 0))), (q10, .inl (kI, 50, .inl (fun _ => 0))), (q11, .inl (kI, 50, .inl (fun _ => 0))), (q12, .inl (kI, 50, .inl (fun _ => 0)))] H := hP
  have hD : va_D A [(h, .inr (5, [.int 0, .int 0, .int 0, .ref q0, .ref q1, .ref q2, .ref q3, .ref q4, .ref q5, .int 0, .ref q6, .ref q7, .ref q8, .ref q9, .int 0, .ref q10, .ref q11, .null, .null, .null, .int 0, .null, .null, .null, .null, .null, .null, .null, .null, .null, .null, .null, .int 0])), (q0, .inl (kI, 50, .inl (fun _ => 0))), (q1, .inl (kZ, 50, .inl (fun _ => 0))), (q2, .inl (kI, 50, .inl (fun _ => 0))), (q3, .inl (kI, 50, .inl (fun _ => 0))), (q4, .inl (kI, 100, .inl (fun _ => 0))), (q5, .inl (kZ, 1000, .inl (fun _ => 0))), (q6, .inl (kI, 100, .inl (fun _ => 0))), (q7, .inl (kI, 100, .inl (fun _ => 0))), (q8, .inl (kI, 100, .inl (fun _ => 0))), (q9, .inl (kI, 100, .inl (fun _ => 0))), (q10, .inl (kI, 50, .inl (fun _ => 0))), (q11, .inl (kI, 50, .inl (fun _ => 0))), (q12, .inl (kI, 50, .inl (fun _ => 0)))] := hD
  refine va_putF (D := D) (ci := 5) (v := .ref q12) (ty := fy_m 17) (C := "RightsLimitModel") (T := fT_m) (N := 33) hx hb hG fi_m fy_m fo_m fn_m hown hK hP hD hS 0 rfl rfl 17 (by decide) (hG _ wd_500) (fun _ h9 => h9) rfl hnm rfl (fo_m 17 (by decide)) rfl rfl (Nat.le_of_ble_eq_true rfl) d_m_init_106 (fun H locs hP hD hS => ?_)
  have hP : va_P D rl_cl [(h, .inr (5, [.int 0, .int 0, .int 0, .ref q0, .ref q1, .ref q2, .ref q3, .ref q4, .ref q5, .int 0, .ref q6, .ref q7, .ref q8, .ref q9, .int 0, .ref q10, .ref q11, .ref q12, .null, .null, .int 0, .null, .null, .null, .null, .null, .null, .null, .null, .null, .null, .null, .int 0])), (q0, .inl (kI, 50, .inl (fun _ => 0))), (q1, .inl (kZ, 50, .inl (fun _ => 0))), (q2, .inl (kI, 50, .inl (fun _ => 0))), (q3, .inl (kI, 50, .inl (fun _ => 0))), (q4, .inl (kI, 100, .inl (fun _ => 0))), (q5, .inl (kZ, 1000, .inl (fun _ => 0))), (q6, .inl (kI, 100, .inl (fun _ => 0))), (q7, .inl (kI, 100, .inl (fun _ => 0))), (q8, .inl (kI, 100, .inl (fun _ => 0))), (q9, .inl (kI, 100, .inl (fun _ => 0))), (q10, .inl (kI, 50, .inl (fun _ => 0))), (q11, .inl (kI, 50, .inl (fun _ => 0))), (q12, .inl (kI, 50, .inl (fun _ => 0)))] H := hP
  have hD : va_D A [(h, .inr (5, [.int 0, .int 0, .int 0, .ref q0, .ref q1, .ref q2, .ref q3, .ref q4, .ref q5, .int 0, .ref q6, .ref q7, .ref q8, .ref q9, .int 0, .ref q10, .ref q11, .ref q12, .null, .null, .int 0, .null, .null, .null, .null, .null, .null, .null, .null, .null, .null, .null, .int 0])), (q0, .inl (kI, 50, .inl (fun _ => 0))), (q1, .inl (kZ, 50, .inl (fun _ => 0))), (q2, .inl (kI, 50, .inl (fun _ => 0))), (q3, .inl (kI, 50, .inl (fun _ => 0))), (q4, .inl (kI, 100, .inl (fun _ => 0))), (q5, .inl (kZ, 1000, .inl (fun _ => 0))), (q6, .inl (kI, 100, .inl (fun _ => 0))), (q7, .inl (kI, 100, .inl (fun _ => 0))), (q8, .inl (kI, 100, .inl (fun _ => 0))), (q9, .inl (kI, 100, .inl (fun _ => 0))), (q10, .inl (kI, 50, .inl (fun _ => 0))), (q11, .inl (kI, 50, .inl (fun _ => 0))), (q12, .inl (kI, 50, .inl (fun _ => 0)))] := hD
  refine lv_aload_n hx hb d_m_init_109 rfl (lv_at hl 0 rfl) ?_
  refine lv_bipush (v := 50) hx hb d_m_init_110 (by decide) ?_
  refine rl_newa (atype := .int) (ty := .int) (N' := 50) (a0 := (50, .inl (fun _ => 0))) hx hb (hG _ wd_58) rfl (fun _ h9 => by cases h9) 0 rfl hK hP hD hS hA (fun _ => rfl) (by decide) (by decide) (by decide) (Nat.le_of_ble_eq_true rfl) (Nat.le_of_ble_eq_true rfl) d_m_init_112 (fun q13 H hP hD hS => ?_)
  have hP : va_P D rl_cl [(h, .inr (5, [.int 0, .int 0, .int 0, .ref q0, .ref q1, .ref q2, .ref q3, .ref q4, .ref q5, .int 0, .ref q6, .ref q7, .ref q8, .ref q9, .int 0, .ref q10, .ref q11, .ref q12, .null, .null, .int 0, .null, .null, .null, .null, .null, .null, .null, .null, .null, .null, .null, .int 0])), (q0, .inl (kI, 50, .inl (fun _ => 0))), (q1, .inl (kZ, 50, .inl (fun _ => 0))), (q2, .inl (kI, 50, .inl (fun _ => 0))), (q3, .inl (kI, 50, .inl (fun _ => 0))), (q4, .inl (kI, 100, .inl (fun _ => 0))), (q5, .inl (kZ, 1000, .inl (fun _ => 0))), (q6, .inl (kI, 100, .inl (fun _ => 0))), (q7, .inl (kI, 100, .inl (fun _ => 0))), (q8, .inl (kI, 100, .inl (fun _ => 0))), (q9, .inl (kI, 100, .inl (fun _ => 0))), (q10, .inl (kI, 50, .inl (fun _ => 0))), (q11, .inl (kI, 50, .inl (fun _ => 0))), (q12, .inl (kI, 50, .inl (fun _ => 0))), (q13, .inl (kI, 50, .inl (fun _ => 0)))] H := hP
  have hD : va_D A [(h, .inr (5, [.int 0, .int 0, .int 0, .ref q0, .ref q1, .ref q2, .ref q3, .ref q4, .ref q5, .int 0, .ref q6, .ref q7, .ref q8, .ref q9, .int 0, .ref q10, .ref q11, .ref q12, .null, .null, .int 0, .null, .null, .null, .null, .null, .null, .null, .null, .null, .null, .null, .int 0])), (q0, .inl (kI, 50, .inl (fun _ => 0))), (q1, .inl (kZ, 50, .inl (fun _ => 0))), (q2, .inl (kI, 50, .inl (fun _ => 0))), (q3, .inl (kI, 50, .inl (fun _ => 0))), (q4, .inl (kI, 100, .inl (fun _ => 0))), (q5, .inl (kZ, 1000, .inl (fun _ => 0))), (q6, .inl (kI, 100, .inl (fun _ => 0))), (q7, .inl (kI, 100, .inl (fun _ => 0))), (q8, .inl (kI, 100, .inl (fun _ => 0))), (q9, .inl (kI, 100, .inl (fun _ => 0))), (q10, .inl (kI, 50, .inl (fun _ => 0))), (q11, .inl (kI, 50, .inl (fun _ => 0))), (q12, .inl (kI, 50, .inl (fun _ => 0))), (q13, .inl (kI, 50, .inl (fun _ => 0)))] := hD
  refine va_putF (D := D) (ci := 5) (v := .ref q13) (ty := fy_m 18) (C := "RightsLimitModel") (T := fT_m) (N := 33) hx hb hG fi_m fy_m fo_m fn_m hown hK hP hD hS 0 rfl rfl 18 (by decide) (hG _ wd_501) (fun _ h9 => h9) rfl hnm rfl (fo_m 18 (by decide)) rfl rfl (Nat.le_of_ble_eq_true rfl) d_m_init_114 (fun H locs hP hD hS => ?_)
  have hP : va_P D rl_cl [(h, .inr (5, [.int 0, .int 0, .int 0, .ref q0, .ref q1, .ref q2, .ref q3, .ref q4, .ref q5, .int 0, .ref q6, .ref q7, .ref q8, .ref q9, .int 0, .ref q10, .ref q11, .ref q12, .ref q13, .null, .int 0, .null, .null, .null, .null, .null, .null, .null, .null, .null, .null, .null, .int 0])), (q0, .inl (kI, 50, .inl (fun _ => 0))), (q1, .inl (kZ, 50, .inl (fun _ => 0))), (q2, .inl (kI, 50, .inl (fun _ => 0))), (q3, .inl (kI, 50, .inl (fun _ => 0))), (q4, .inl (kI, 100, .inl (fun _ => 0))), (q5, .inl (kZ, 1000, .inl (fun _ => 0))), (q6, .inl (kI, 100, .inl (fun _ => 0))), (q7, .inl (kI, 100, .inl (fun _ => 0))), (q8, .inl (kI, 100, .inl (fun _ => 0))), (q9, .inl (kI, 100, .inl (fun _ => 0))), (q10, .inl (kI, 50, .inl (fun _ => 0))), (q11, .inl (kI, 50, .inl (fun _ => 0))), (q12, .inl (kI, 50, .inl (fun _ => 0))), (q13, .inl (kI, 50, .inl (fun _ => 0)))] H := hP
  have hD : va_D A [(h, .inr (5, [.int 0, .int 0, .int 0, .ref q0, .ref q1, .ref q2, .ref q3, .ref q4, .ref q5, .int 0, .ref q6, .ref q7, .ref q8, .ref q9, .int 0, .ref q10, .ref q11, .ref q12, .ref q13, .null, .int 0, .null, .null, .null, .null, .null, .null, .null, .null, .null, .null, .null, .int 0])), (q0, .inl (kI, 50, .inl (fun _ => 0))), (q1, .inl (kZ, 50, .inl (fun _ => 0))), (q2, .inl (kI, 50, .inl (fun _ => 0))), (q3, .inl (kI, 50, .inl (fun _ => 0))), (q4, .inl (kI, 100, .inl (fun _ => 0))), (q5, .inl (kZ, 1000, .inl (fun _ => 0))), (q6, .inl (kI, 100, .inl (fun _ => 0))), (q7, .inl (kI, 100, .inl (fun _ => 0))), (q8, .inl (kI, 100, .inl (fun _ => 0))), (q9, .inl (kI, 100, .inl (fun _ => 0))), (q10, .inl (kI, 50, .inl (fun _ => 0))), (q11, .inl (kI, 50, .inl (fun _ => 0))), (q12, .inl (kI, 50, .inl (fun _ => 0))), (q13, .inl (kI, 50, .inl (fun _ => 0)))] := hD
  refine lv_aload_n hx hb d_m_init_117 rfl (lv_at hl 0 rfl) ?_
  refine lv_bipush (v := 50) hx hb d_m_init_118 (by decide) ?_
  refine rl_newa (atype := .int) (ty := .int) (N' := 50) (a0 := (50, .inl (fun _ => 0))) hx hb (hG _ wd_58) rfl (fun _ h9 => by cases h9) 0 rfl hK hP hD hS hA (fun _ => rfl) (by decide) (by decide) (by decide) (Nat.le_of_ble_eq_true rfl) (Nat.le_of_ble_eq_true rfl) d_m_init_120 (fun q14 H hP hD hS => ?_)
  have hP : va_P D rl_cl [(h, .inr (5, [.int 0, .int 0, .int 0, .ref q0, .ref q1, .ref q2, .ref q3, .ref q4, .ref q5, .int 0, .ref q6, .ref q7, .ref q8, .ref q9, .int 0, .ref q10, .ref q11, .ref q12, .ref q13, .null, .int 0, .null, .null, .null, .null, .null, .null, .null, .null, .null, .null, .null, .int 0])), (q0, .inl (kI, 50, .inl (fun _ => 0))), (q1, .inl (kZ, 50, .inl (fun _ => 0))), (q2, .inl (kI, 50, .inl (fun _ => 0))), (q3, .inl (kI, 50, .inl (fun _ => 0))), (q4, .inl (kI, 100, .inl (fun _ => 0))), (q5, .inl (kZ, 1000, .inl (fun _ => 0))), (q6, .inl (kI, 100, .inl (fun _ => 0))), (q7, .inl (kI, 100, .inl (fun _ => 0))), (q8, .inl (kI, 100, .inl (fun _ => 0))), (q9, .inl (kI, 100, .inl (fun _ => 0))), (q10, .inl (kI, 50, .inl (fun _ => 0))), (q11, .inl (kI, 50, .inl (fun _ => 0))), (q12, .inl (kI, 50, .inl (fun _ => 0))), (q13, .inl (kI, 50, .inl (fun _ => 0))), (q14, .inl (kI, 50, .inl (fun _ => 0)))] H := hP
  have hD : va_D A [(h, .inr (5, [.int 0, .int 0, .int 0, .ref q0, .ref q1, .ref q2, .ref q3, .ref q4, .ref q5, .int 0, .ref q6, .ref q7, .ref q8, .ref q9, .int 0, .ref q10, .ref q11, .ref q12, .ref q13, .null, .int 0, .null, .null, .null, .null, .null, .null, .null, .null, .null, .null, .null, .int 0])), (q0, .inl (kI, 50, .inl (fun _ => 0))), (q1, .inl (kZ, 50, .inl (fun _ => 0))), (q2, .inl (kI, 50, .inl (fun _ => 0))), (q3, .inl (kI, 50, .inl (fun _ => 0))), (q4, .inl (kI, 100, .inl (fun _ => 0))), (q5, .inl (kZ, 1000, .inl (fun _ => 0))), (q6, .inl (kI, 100, .inl (fun _ => 0))), (q7, .inl (kI, 100, .inl (fun _ => 0))), (q8, .inl (kI, 100, .inl (fun _ => 0))), (q9, .inl (kI, 100, .inl (fun _ => 0))), (q10, .inl (kI, 50, .inl (fun _ => 0))), (q11, .inl (kI, 50, .inl (fun _ => 0))), (q12, .inl (kI, 50, .inl (fun _ => 0))), (q13, .inl (kI, 50, .inl (fun _ => 0))), (q14, .inl (kI, 50, .inl (fun _ => 0)))] := hD
  refine va_putF (D := D) (ci := 5) (v := .ref q14) (ty := fy_m 19) (C := "RightsLimitModel") (T := fT_m) (N := 33) hx hb hG fi_m fy_m fo_m fn_m hown hK hP hD hS 0 rfl rfl 19 (by decide) (hG _ wd_502) (fun _ h9 => h9) rfl hnm rfl (fo_m 19 (by decide)) rfl rfl (Nat.le_of_ble_eq_true rfl) d_m_init_122 (fun H locs hP hD hS => ?_)
  have hP : va_P D rl_cl [(h, .inr (5, [.int 0, .int 0, .int 0, .ref q0, .ref q1, .ref q2, .ref q3, .ref q4, .ref q5, .int 0, .ref q6, .ref q7, .ref q8, .ref q9, .int 0, .ref q10, .ref q11, .ref q12, .ref q13, .ref q14, .int 0, .null, .null, .null, .null, .null, .null, .null, .null, .null, .null, .null, .int 0])), (q0, .inl (kI, 50, .inl (fun _ => 0))), (q1, .inl (kZ, 50, .inl (fun _ => 0))), (q2, .inl (kI, 50, .inl (fun _ => 0))), (q3, .inl (kI, 50, .inl (fun _ => 0))), (q4, .inl (kI, 100, .inl (fun _ => 0))), (q5, .inl (kZ, 1000, .inl (fun _ => 0))), (q6, .inl (kI, 100, .inl (fun _ => 0))), (q7, .inl (kI, 100, .inl (fun _ => 0))), (q8, .inl (kI, 100, .inl (fun _ => 0))), (q9, .inl (kI, 100, .inl (fun _ => 0))), (q10, .inl (kI, 50, .inl (fun _ => 0))), (q11, .inl (kI, 50, .inl (fun _ => 0))), (q12, .inl (kI, 50, .inl (fun _ => 0))), (q13, .inl (kI, 50, .inl (fun _ => 0))), (q14, .inl (kI, 50, .inl (fun _ => 0)))] H := hP
  have hD : va_D A [(h, .inr (5, [.int 0, .int 0, .int 0, .ref q0, .ref q1, .ref q2, .ref q3, .ref q4, .ref q5, .int 0, .ref q6, .ref q7, .ref q8, .ref q9, .int 0, .ref q10, .ref q11, .ref q12, .ref q13, .ref q14, .int 0, .null, .null, .null, .null, .null, .null, .null, .null, .null, .null, .null, .int 0])), (q0, .inl (kI, 50, .inl (fun _ => 0))), (q1, .inl (kZ, 50, .inl (fun _ => 0))), (q2, .inl (kI, 50, .inl (fun _ => 0))), (q3, .inl (kI, 50, .inl (fun _ => 0))), (q4, .inl (kI, 100, .inl (fun _ => 0))), (q5, .inl (kZ, 1000, .inl (fun _ => 0))), (q6, .inl (kI, 100, .inl (fun _ => 0))), (q7, .inl (kI, 100, .inl (fun _ => 0))), (q8, .inl (kI, 100, .inl (fun _ => 0))), (q9, .inl (kI, 100, .inl (fun _ => 0))), (q10, .inl (kI, 50, .inl (fun _ => 0))), (q11, .inl (kI, 50, .inl (fun _ => 0))), (q12, .inl (kI, 50, .inl (fun _ => 0))), (q13, .inl (kI, 50, .inl (fun _ => 0))), (q14, .inl (kI, 50, .inl (fun _ => 0)))] := hD
  refine lv_aload_n hx hb d_m_init_125 rfl (lv_at hl 0 rfl) ?_
  refine lv_sipush (v := 300) hx hb d_m_init_126 (by decide) ?_
  refine rl_newa (atype := .int) (ty := .int) (N' := 300) (a0 := (300, .inl (fun _ => 0))) hx hb (hG _ wd_58) rfl (fun _ h9 => by cases h9) 0 rfl hK hP hD hS hA (fun _ => rfl) (by decide) (by decide) (by decide) (Nat.le_of_ble_eq_true rfl) (Nat.le_of_ble_eq_true rfl) d_m_init_129 (fun q15 H hP hD hS => ?_)
  have hP : va_P D rl_cl [(h, .inr (5, [.int 0, .int 0, .int 0, .ref q0, .ref q1, .ref q2, .ref q3, .ref q4, .ref q5, .int 0, .ref q6, .ref q7, .ref q8, .ref q9, .int 0, .ref q10, .ref q11, .ref q12, .ref q13, .ref q14, .int 0, .null, .null, .null, .null, .null, .null, .null, .null, .null, .null, .null, .int 0])), (q0, .inl (kI, 50, .inl (fun _ => 0))), (q1, .inl (kZ, 50, .inl (fun _ => 0))), (q2, .inl (kI, 50, .inl (fun _ => 0))), (q3, .inl (kI, 50, .inl (fun _ => 0))), (q4, .inl (kI, 100, .inl (fun _ => 0))), (q5, .inl (kZ, 1000, .inl (fun _ => 0))), (q6, .inl (kI, 100, .inl (fun _ => 0))), (q7, .inl (kI, 100, .inl (fun _ => 0))), (q8, .inl (kI, 100, .inl (fun _ => 0))), (q9, .inl (kI, 100, .inl (fun _ => 0))), (q10, .inl (kI, 50, .inl (fun _ => 0))), (q11, .inl (kI, 50, .inl (fun _ => 0))), (q12, .inl (kI, 50, .inl (fun _ => 0))), (q13, .inl (kI, 50, .inl (fun _ => 0))), (q14, .inl (kI, 50, .inl (fun _ => 0))), (q15, .inl (kI, 300, .inl (fun _ => 0)))] H := hP
  have hD : va_D A [(h, .inr (5, [.int 0, .int 0, .int 0, .ref q0, .ref q1, .ref q2, .ref q3, .ref q4, .ref q5, .int 0, .ref q6, .ref q7, .ref q8, .ref q9, .int 0, .ref q10, .ref q11, .ref q12, .ref q13, .ref q14, .int 0, .null, .null, .null, .null, .null, .null, .null, .null, .null, .null, .null, .int 0])), (q0, .inl (kI, 50, .inl (fun _ => 0))), (q1, .inl (kZ, 50, .inl (fun _ => 0))), (q2, .inl (kI, 50, .inl (fun _ => 0))), (q3, .inl (kI, 50, .inl (fun _ => 0))), (q4, .inl (kI, 100, .inl (fun _ => 0))), (q5, .inl (kZ, 1000, .inl (fun _ => 0))), (q6, .inl (kI, 100, .inl (fun _ => 0))), (q7, .inl (kI, 100, .inl (fun _ => 0))), (q8, .inl (kI, 100, .inl (fun _ => 0))), (q9, .inl (kI, 100, .inl (fun _ => 0))), (q10, .inl (kI, 50, .inl (fun _ => 0))), (q11, .inl (kI, 50, .inl (fun _ => 0))), (q12, .inl (kI, 50, .inl (fun _ => 0))), (q13, .inl (kI, 50, .inl (fun _ => 0))), (q14, .inl (kI, 50, .inl (fun _ => 0))), (q15, .inl (kI, 300, .inl (fun _ => 0)))] := hD
  refine va_putF (D := D) (ci := 5) (v := .ref q15) (ty := fy_m 21) (C := "RightsLimitModel") (T := fT_m) (N := 33) hx hb hG fi_m fy_m fo_m fn_m hown hK hP hD hS 0 rfl rfl 21 (by decide) (hG _ wd_504) (fun _ h9 => h9) rfl hnm rfl (fo_m 21 (by decide)) rfl rfl (Nat.le_of_ble_eq_true rfl) d_m_init_131 (fun H locs hP hD hS => ?_)
  have hP : va_P D rl_cl [(h, .inr (5, [.int 0, .int 0, .int 0, .ref q0, .ref q1, .ref q2, .ref q3, .ref q4, .ref q5, .int 0, .ref q6, .ref q7, .ref q8, .ref q9, .int 0, .ref q10, .ref q11, .ref q12, .ref q13, .ref q14, .int 0, .ref q15, .null, .null, .null, .null, .null, .null, .null, .null, .null, .null, .int 0])), (q0, .inl (kI, 50, .inl (fun _ => 0))), (q1, .inl (kZ, 50, .inl (fun _ => 0))), (q2, .inl (kI, 50, .inl (fun _ => 0))), (q3, .inl (kI, 50, .inl (fun _ => 0))), (q4, .inl (kI, 100, .inl (fun _ => 0))), (q5, .inl (kZ, 1000, .inl (fun _ => 0))), (q6, .inl (kI, 100, .inl (fun _ => 0))), (q7, .inl (kI, 100, .inl (fun _ => 0))), (q8, .inl (kI, 100, .inl (fun _ => 0))), (q9, .inl (kI, 100, .inl (fun _ => 0))), (q10, .inl (kI, 50, .inl (fun _ => 0))), (q11, .inl (kI, 50, .inl (fun _ => 0))), (q12, .inl (kI, 50, .inl (fun _ => 0))), (q13, .inl (kI, 50, .inl (fun _ => 0))), (q14, .inl (kI, 50, .inl (fun _ => 0))), (q15, .inl (kI, 300, .inl (fun _ => 0)))] H := hP
  have hD : va_D A [(h, .inr (5, [.int 0, .int 0, .int 0, .ref q0, .ref q1, .ref q2, .ref q3, .ref q4, .ref q5, .int 0, .ref q6, .ref q7, .ref q8, .ref q9, .int 0, .ref q10, .ref q11, .ref q12, .ref q13, .ref q14, .int 0, .ref q15, .null, .null, .null, .null, .null, .null, .null, .null, .null, .null, .int 0])), (q0, .inl (kI, 50, .inl (fun _ => 0))), (q1, .inl (kZ, 50, .inl (fun _ => 0))), (q2, .inl (kI, 50, .inl (fun _ => 0))), (q3, .inl (kI, 50, .inl (fun _ => 0))), (q4, .inl (kI, 100, .inl (fun _ => 0))), (q5, .inl (kZ, 1000, .inl (fun _ => 0))), (q6, .inl (kI, 100, .inl (fun _ => 0))), (q7, .inl (kI, 100, .inl (fun _ => 0))), (q8, .inl (kI, 100, .inl (fun _ => 0))), (q9, .inl (kI, 100, .inl (fun _ => 0))), (q10, .inl (kI, 50, .inl (fun _ => 0))), (q11, .inl (kI, 50, .inl (fun _ => 0))), (q12, .inl (kI, 50, .inl (fun _ => 0))), (q13, .inl (kI, 50, .inl (fun _ => 0))), (q14, .inl (kI, 50, .inl (fun _ => 0))), (q15, .inl (kI, 300, .inl (fun _ => 0)))] := hD
  refine lv_aload_n hx hb d_m_init_134 rfl (lv_at hl 0 rfl) ?_
  refine lv_sipush (v := 300) hx hb d_m_init_135 (by decide) ?_
  refine rl_newa (atype := .int) (ty := .int) (N' := 300) (a0 := (300, .inl (fun _ => 0))) hx hb (hG _ wd_58) rfl (fun _ h9 => by cases h9) 0 rfl hK hP hD hS hA (fun _ => rfl) (by decide) (by decide) (by decide) (Nat.le_of_ble_eq_true rfl) (Nat.le_of_ble_eq_true rfl) d_m_init_138 (fun q16 H hP hD hS => ?_)
  have hP : va_P D rl_cl [(h, .inr (5, [.int 0, .int 0, .int 0, .ref q0, .ref q1, .ref q2, .ref q3, .ref q4, .ref q5, .int 0, .ref q6, .ref q7, .ref q8, .ref q9, .int 0, .ref q10, .ref q11, .ref q12, .ref q13, .ref q14, .int 0, .ref q15, .null, .null, .null, .null, .null, .null, .null, .null, .null, .null, .int 0])), (q0, .inl (kI, 50, .inl (fun _ => 0))), (q1, .inl (kZ, 50, .inl (fun _ => 0))), (q2, .inl (kI, 50, .inl (fun _ => 0))), (q3, .inl (kI, 50, .inl (fun _ => 0))), (q4, .inl (kI, 100, .inl (fun _ => 0))), (q5, .inl (kZ, 1000, .inl (fun _ => 0))), (q6, .inl (kI, 100, .inl (fun _ => 0))), (q7, .inl (kI, 100, .inl (fun _ => 0))), (q8, .inl (kI, 100, .inl (fun _ => 0))), (q9, .inl (kI, 100, .inl (fun _ => 0))), (q10, .inl (kI, 50, .inl (fun _ => 0))), (q11, .inl (kI, 50, .inl (fun _ => 0))), (q12, .inl (kI, 50, .inl (fun _ => 0))), (q13, .inl (kI, 50, .inl (fun _ => 0))), (q14, .inl (kI, 50, .inl (fun _ => 0))), (q15, .inl (kI, 300, .inl (fun _ => 0))), (q16, .inl (kI, 300, .inl (fun _ => 0)))] H := hP
  have hD : va_D A [(h, .inr (5, [.int 0, .int 0, .int 0, .ref q0, .ref q1, .ref q2, .ref q3, .ref q4, .ref q5, .int 0, .ref q6, .ref q7, .ref q8, .ref q9, .int 0, .ref q10, .ref q11, .ref q12, .ref q13, .ref q14, .int 0, .ref q15, .null, .null, .null, .null, .null, .null, .null, .null, .null, .null, .int 0])), (q0, .inl (kI, 50, .inl (fun _ => 0))), (q1, .inl (kZ, 50, .inl (fun _ => 0))), (q2, .inl (kI, 50, .inl (fun _ => 0))), (q3, .inl (kI, 50, .inl (fun _ => 0))), (q4, .inl (kI, 100, .inl (fun _ => 0))), (q5, .inl (kZ, 1000, .inl (fun _ => 0))), (q6, .inl (kI, 100, .inl (fun _ => 0))), (q7, .inl (kI, 100, .inl (fun _ => 0))), (q8, .inl (kI, 100, .inl (fun _ => 0))), (q9, .inl (kI, 100, .inl (fun _ => 0))), (q10, .inl (kI, 50, .inl (fun _ => 0))), (q11, .inl (kI, 50, .inl (fun _ => 0))), (q12, .inl (kI, 50, .inl (fun _ => 0))), (q13, .inl (kI, 50, .inl (fun _ => 0))), (q14, .inl (kI, 50, .inl (fun _ => 0))), (q15, .inl (kI, 300, .inl (fun _ => 0))), (q16, .inl (kI, 300, .inl (fun _ => 0)))] := hD
  refine va_putF (D := D) (ci := 5) (v := .ref q16) (ty := fy_m 22) (C := "RightsLimitModel") (T := fT_m) (N := 33) hx hb hG fi_m fy_m fo_m fn_m hown hK hP hD hS 0 rfl rfl 22 (by decide) (hG _ wd_505) (fun _ h9 => h9) rfl hnm rfl (fo_m 22 (by decide)) rfl rfl (Nat.le_of_ble_eq_true rfl) d_m_init_140 (fun H locs hP hD hS => ?_)
  have hP : va_P D rl_cl [(h, .inr (5, [.int 0, .int 0, .int 0, .ref q0, .ref q1, .ref q2, .ref q3, .ref q4, .ref q5, .int 0, .ref q6, .ref q7, .ref q8, .ref q9, .int 0, .ref q10, .ref q11, .ref q12, .ref q13, .ref q14, .int 0, .ref q15, .ref q16, .null, .null, .null, .null, .null, .null, .null, .null, .null, .int 0])), (q0, .inl (kI, 50, .inl (fun _ => 0))), (q1, .inl (kZ, 50, .inl (fun _ => 0))), (q2, .inl (kI, 50, .inl (fun _ => 0))), (q3, .inl (kI, 50, .inl (fun _ => 0))), (q4, .inl (kI, 100, .inl (fun _ => 0))), (q5, .inl (kZ, 1000, .inl (fun _ => 0))), (q6, .inl (kI, 100, .inl (fun _ => 0))), (q7, .inl (kI, 100, .inl (fun _ => 0))), (q8, .inl (kI, 100, .inl (fun _ => 0))), (q9, .inl (kI, 100, .inl (fun _ => 0))), (q10, .inl (kI, 50, .inl (fun _ => 0))), (q11, .inl (kI, 50, .inl (fun _ => 0))), (q12, .inl (kI, 50, .inl (fun _ => 0))), (q13, .inl (kI, 50, .inl (fun _ => 0))), (q14, .inl (kI, 50, .inl (fun _ => 0))), (q15, .inl (kI, 300, .inl (fun _ => 0))), (q16, .inl (kI, 300, .inl (fun _ => 0)))] H := hP
  have hD : va_D A [(h, .inr (5, [.int 0, .int 0, .int 0, .ref q0, .ref q1, .ref q2, .ref q3, .ref q4, .ref q5, .int 0, .ref q6, .ref q7, .ref q8, .ref q9, .int 0, .ref q10, .ref q11, .ref q12, .ref q13, .ref q14, .int 0, .ref q15, .ref q16, .null, .null, .null, .null, .null, .null, .null, .null, .null, .int 0])), (q0, .inl (kI, 50, .inl (fun _ => 0))), (q1, .inl (kZ, 50, .inl (fun _ => 0))), (q2, .inl (kI, 50, .inl (fun _ => 0))), (q3, .inl (kI, 50, .inl (fun _ => 0))), (q4, .inl (kI, 100, .inl (fun _ => 0))), (q5, .inl (kZ, 1000, .inl (fun _ => 0))), (q6, .inl (kI, 100, .inl (fun _ => 0))), (q7, .inl (kI, 100, .inl (fun _ => 0))), (q8, .inl (kI, 100, .inl (fun _ => 0))), (q9, .inl (kI, 100, .inl (fun _ => 0))), (q10, .inl (kI, 50, .inl (fun _ => 0))), (q11, .inl (kI, 50, .inl (fun _ => 0))), (q12, .inl (kI, 50, .inl (fun _ => 0))), (q13, .inl (kI, 50, .inl (fun _ => 0))), (q14, .inl (kI, 50, .inl (fun _ => 0))), (q15, .inl (kI, 300, .inl (fun _ => 0))), (q16, .inl (kI, 300, .inl (fun _ => 0)))] := hD
  refine lv_aload_n hx hb d_m_init_143 rfl (lv_at hl 0 rfl) ?_
  refine lv_sipush (v := 300) hx hb d_m_init_144 (by decide) ?_
  refine rl_newa (atype := .int) (ty := .int) (N' := 300) (a0 := (300, .inl (fun _ => 0))) hx hb (hG _ wd_58) rfl (fun _ h9 => by cases h9) 0 rfl hK hP hD hS hA (fun _ => rfl) (by decide) (by decide) (by decide) (Nat.le_of_ble_eq_true rfl) (Nat.le_of_ble_eq_true rfl) d_m_init_147 (fun q17 H hP hD hS => ?_)
  have hP : va_P D rl_cl [(h, .inr (5, [.int 0, .int 0, .int 0, .ref q0, .ref q1, .ref q2, .ref q3, .ref q4, .ref q5, .int 0, .ref q6, .ref q7, .ref q8, .ref q9, .int 0, .ref q10, .ref q11, .ref q12, .ref q13, .ref q14, .int 0, .ref q15, .ref q16, .null, .null, .null, .null, .null, .null, .null, .null, .null, .int 0])), (q0, .inl (kI, 50, .inl (fun _ => 0))), (q1, .inl (kZ, 50, .inl (fun _ => 0))), (q2, .inl (kI, 50, .inl (fun _ => 0))), (q3, .inl (kI, 50, .inl (fun _ => 0))), (q4, .inl (kI, 100, .inl (fun _ => 0))), (q5, .inl (kZ, 1000, .inl (fun _ => 0))), (q6, .inl (kI, 100, .inl (fun _ => 0))), (q7, .inl (kI, 100, .inl (fun _ => 0))), (q8, .inl (kI, 100, .inl (fun _ => 0))), (q9, .inl (kI, 100, .inl (fun _ => 0))), (q10, .inl (kI, 50, .inl (fun _ => 0))), (q11, .inl (kI, 50, .inl (fun _ => 0))), (q12, .inl (kI, 50, .inl (fun _ => 0))), (q13, .inl (kI, 50, .inl (fun _ => 0))), (q14, .inl (kI, 50, .inl (fun _ => 0))), (q15, .inl (kI, 300, .inl (fun _ => 0))), (q16, .inl (kI, 300, .inl (fun _ => 0))), (q17, .inl (kI, 300, .inl (fun _ => 0)))] H := hP
  have hD : va_D A [(h, .inr (5, [.int 0, .int 0, .int 0, .ref q0, .ref q1, .ref q2, .ref q3, .ref q4, .ref q5, .int 0, .ref q6, .ref q7, .ref q8, .ref q9, .int 0, .ref q10, .ref q11, .ref q12, .ref q13, .ref q14, .int 0, .ref q15, .ref q16, .null, .null, .null, .null, .null, .null, .null, .null, .null, .int 0])), (q0, .inl (kI, 50, .inl (fun _ => 0))), (q1, .inl (kZ, 50, .inl (fun _ => 0))), (q2, .inl (kI, 50, .inl (fun _ => 0))), (q3, .inl (kI, 50, .inl (fun _ => 0))), (q4, .inl (kI, 100, .inl (fun _ => 0))), (q5, .inl (kZ, 1000, .inl (fun _ => 0))), (q6, .inl (kI, 100, .inl (fun _ => 0))), (q7, .inl (kI, 100, .inl (fun _ => 0))), (q8, .inl (kI, 100, .inl (fun _ => 0))), (q9, .inl (kI, 100, .inl (fun _ => 0))), (q10, .inl (kI, 50, .inl (fun _ => 0))), (q11, .inl (kI, 50, .inl (fun _ => 0))), (q12, .inl (kI, 50, .inl (fun _ => 0))), (q13, .inl (kI, 50, .inl (fun _ => 0))), (q14, .inl (kI, 50, .inl (fun _ => 0))), (q15, .inl (kI, 300, .inl (fun _ => 0))), (q16, .inl (kI, 300, .inl (fun _ => 0))), (q17, .inl (kI, 300, .inl (fun _ => 0)))] := hD
  refine va_putF (D := D) (ci := 5) (v := .ref q17) (ty := fy_m 23) (C := "RightsLimitModel") (T := fT_m) (N := 33) hx hb hG fi_m fy_m fo_m fn_m hown hK hP hD hS 0 rfl rfl 23 (by decide) (hG _ wd_506) (fun _ h9 => h9) rfl hnm rfl (fo_m 23 (by decide)) rfl rfl (Nat.le_of_ble_eq_true rfl) d_m_init_149 (fun H locs hP hD hS => ?_)
  have hP : va_P D rl_cl [(h, .inr (5, [.int 0, .int 0, .int 0, .ref q0, .ref q1, .ref q2, .ref q3, .ref q4, .ref q5, .int 0, .ref q6, .ref q7, .ref q8, .ref q9, .int 0, .ref q10, .ref q11, .ref q12, .ref q13, .ref q14, .int 0, .ref q15, .ref q16, .ref q17, .null, .null, .null, .null, .null, .null, .null, .null, .int 0])), (q0, .inl (kI, 50, .inl (fun _ => 0))), (q1, .inl (kZ, 50, .inl (fun _ => 0))), (q2, .inl (kI, 50, .inl (fun _ => 0))), (q3, .inl (kI, 50, .inl (fun _ => 0))), (q4, .inl (kI, 100, .inl (fun _ => 0))), (q5, .inl (kZ, 1000, .inl (fun _ => 0))), (q6, .inl (kI, 100, .inl (fun _ => 0))), (q7, .inl (kI, 100, .inl (fun _ => 0))), (q8, .inl (kI, 100, .inl (fun _ => 0))), (q9, .inl (kI, 100, .inl (fun _ => 0))), (q10, .inl (kI, 50, .inl (fun _ => 0))), (q11, .inl (kI, 50, .inl (fun _ => 0))), (q12, .inl (kI, 50, .inl (fun _ => 0))), (q13, .inl (kI, 50, .inl (fun _ => 0))), (q14, .inl (kI, 50, .inl (fun _ => 0))), (q15, .inl (kI, 300, .inl (fun _ => 0))), (q16, .inl (kI, 300, .inl (fun _ => 0))), (q17, .inl (kI, 300, .inl (fun _ => 0)))] H := hP
  have hD : va_D A [(h, .inr (5, [.int 0, .int 0, .int 0, .ref q0, .ref q1, .ref q2, .ref q3, .ref q4, .ref q5, .int 0, .ref q6, .ref q7, .ref q8, .ref q9, .int 0, .ref q10, .ref q11, .ref q12, .ref q13, .ref q14, .int 0, .ref q15, .ref q16, .ref q17, .null, .null, .null, .null, .null, .null, .null, .null, .int 0])), (q0, .inl (kI, 50, .inl (fun _ => 0))), (q1, .inl (kZ, 50, .inl (fun _ => 0))), (q2, .inl (kI, 50, .inl (fun _ => 0))), (q3, .inl (kI, 50, .inl (fun _ => 0))), (q4, .inl (kI, 100, .inl (fun _ => 0))), (q5, .inl (kZ, 1000, .inl (fun _ => 0))), (q6, .inl (kI, 100, .inl (fun _ => 0))), (q7, .inl (kI, 100, .inl (fun _ => 0))), (q8, .inl (kI, 100, .inl (fun _ => 0))), (q9, .inl (kI, 100, .inl (fun _ => 0))), (q10, .inl (kI, 50, .inl (fun _ => 0))), (q11, .inl (kI, 50, .inl (fun _ => 0))), (q12, .inl (kI, 50, .inl (fun _ => 0))), (q13, .inl (kI, 50, .inl (fun _ => 0))), (q14, .inl (kI, 50, .inl (fun _ => 0))), (q15, .inl (kI, 300, .inl (fun _ => 0))), (q16, .inl (kI, 300, .inl (fun _ => 0))), (q17, .inl (kI, 300, .inl (fun _ => 0)))] := hD
  refine lv_aload_n hx hb d_m_init_152 rfl (lv_at hl 0 rfl) ?_
  refine lv_sipush (v := 300) hx hb d_m_init_153 (by decide) ?_
  refine rl_newa (atype := .int) (ty := .int) (N' := 300) (a0 := (300, .inl (fun _ => 0))) hx hb (hG _ wd_58) rfl (fun _ h9 => by cases h9) 0 rfl hK hP hD hS hA (fun _ => rfl) (by decide) (by decide) (by decide) (Nat.le_of_ble_eq_true rfl) (Nat.le_of_ble_eq_true rfl) d_m_init_156 (fun q18 H hP hD hS => ?_)
  have hP : va_P D rl_cl [(h, .inr (5, [.int 0, .int 0, .int 0, .ref q0, .ref q1, .ref q2, .ref q3, .ref q4, .ref q5, .int 0, .ref q6, .ref q7, .ref q8, .ref q9, .int 0, .ref q10, .ref q11, .ref q12, .ref q13, .ref q14, .int 0, .ref q15, .ref q16, .ref q17, .null, .null, .null, .null, .null, .null, .null, .null, .int 0])), (q0, .inl (kI, 50, .inl (fun _ => 0))), (q1, .inl (kZ, 50, .inl (fun _ => 0))), (q2, .inl (kI, 50, .inl (fun _ => 0))), (q3, .inl (kI, 50, .inl (fun _ => 0))), (q4, .inl (kI, 100, .inl (fun _ => 0))), (q5, .inl (kZ, 1000, .inl (fun _ => 0))), (q6, .inl (kI, 100, .inl (fun _ => 0))), (q7, .inl (kI, 100, .inl (fun _ => 0))), (q8, .inl (kI, 100, .inl (fun _ => 0))), (q9, .inl (kI, 100, .inl (fun _ => 0))), (q10, .inl (kI, 50, .inl (fun _ => 0))), (q11, .inl (kI, 50, .inl (fun _ => 0))), (q12, .inl (kI, 50, .inl (fun _ => 0))), (q13, .inl (kI, 50, .inl (fun _ => 0))), (q14, .inl (kI, 50, .inl (fun _ => 0))), (q15, .inl (kI, 300, .inl (fun _ => 0))), (q16, .inl (kI, 300, .inl (fun _ => 0))), (q17, .inl (kI, 300, .inl (fun _ => 0))), (q18, .inl (kI, 300, .inl (fun _ => 0)))] H := hP
  have hD : va_D A [(h, .inr (5, [.int 0, .int 0, .int 0, .ref q0, .ref q1, .ref q2, .ref q3, .ref q4, .ref q5, .int 0, .ref q6, .ref q7, .ref q8, .ref q9, .int 0, .ref q10, .ref q11, .ref q12, .ref q13, .ref q14, .int 0, .ref q15, .ref q16, .ref q17, .null, .null, .null, .null, .null, .null, .null, .null, .int 0])), (q0, .inl (kI, 50, .inl (fun _ => 0))), (q1, .inl (kZ, 50, .inl (fun _ => 0))), (q2, .inl (kI, 50, .inl (fun _ => 0))), (q3, .inl (kI, 50, .inl (fun _ => 0))), (q4, .inl (kI, 100, .inl (fun _ => 0))), (q5, .inl (kZ, 1000, .inl (fun _ => 0))), (q6, .inl (kI, 100, .inl (fun _ => 0))), (q7, .inl (kI, 100, .inl (fun _ => 0))), (q8, .inl (kI, 100, .inl (fun _ => 0))), (q9, .inl (kI, 100, .inl (fun _ => 0))), (q10, .inl (kI, 50, .inl (fun _ => 0))), (q11, .inl (kI, 50, .inl (fun _ => 0))), (q12, .inl (kI, 50, .inl (fun _ => 0))), (q13, .inl (kI, 50, .inl (fun _ => 0))), (q14, .inl (kI, 50, .inl (fun _ => 0))), (q15, .inl (kI, 300, .inl (fun _ => 0))), (q16, .inl (kI, 300, .inl (fun _ => 0))), (q17, .inl (kI, 300, .inl (fun _ => 0))), (q18, .inl (kI, 300, .inl (fun _ => 0)))] := hD
  refine va_putF (D := D) (ci := 5) (v := .ref q18) (ty := fy_m 24) (C := "RightsLimitModel") (T := fT_m) (N := 33) hx hb hG fi_m fy_m fo_m fn_m hown hK hP hD hS 0 rfl rfl 24 (by decide) (hG _ wd_507) (fun _ h9 => h9) rfl hnm rfl (fo_m 24 (by decide)) rfl rfl (Nat.le_of_ble_eq_true rfl) d_m_init_158 (fun H locs hP hD hS => ?_)
  have hP : va_P D rl_cl [(h, .inr (5, [.int 0, .int 0, .int 0, .ref q0, .ref q1, .ref q2, .ref q3, .ref q4, .ref q5, .int 0, .ref q6, .ref q7, .ref q8, .ref q9, .int 0, .ref q10, .ref q11, .ref q12, .ref q13, .ref q14, .int 0, .ref q15, .ref q16, .ref q17, .ref q18, .null, .null, .null, .null, .null, .null, .null, .int 0])), (q0, .inl (kI, 50, .inl (fun _ => 0))), (q1, .inl (kZ, 50, .inl (fun _ => 0))), (q2, .inl (kI, 50, .inl (fun _ => 0))), (q3, .inl (kI, 50, .inl (fun _ => 0))), (q4, .inl (kI, 100, .inl (fun _ => 0))), (q5, .inl (kZ, 1000, .inl (fun _ => 0))), (q6, .inl (kI, 100, .inl (fun _ => 0))), (q7, .inl (kI, 100, .inl (fun _ => 0))), (q8, .inl (kI, 100, .inl (fun _ => 0))), (q9, .inl (kI, 100, .inl (fun _ => 0))), (q10, .inl (kI, 50, .inl (fun _ => 0))), (q11, .inl (kI, 50, .inl (fun _ => 0))), (q12, .inl (kI, 50, .inl (fun _ => 0))), (q13, .inl (kI, 50, .inl (fun _ => 0))), (q14, .inl (kI, 50, .inl (fun _ => 0))), (q15, .inl (kI, 300, .inl (fun _ => 0))), (q16, .inl (kI, 300, .inl (fun _ => 0))), (q17, .inl (kI, 300, .inl (fun _ => 0))), (q18, .inl (kI, 300, .inl (fun _ => 0)))] H := hP
  have hD : va_D A [(h, .inr (5, [.int 0, .int 0, .int 0, .ref q0, .ref q1, .ref q2, .ref q3, .ref q4, .ref q5, .int 0, .ref q6, .ref q7, .ref q8, .ref q9, .int 0, .ref q10, .ref q11, .ref q12, .ref q13, .ref q14, .int 0, .ref q15, .ref q16, .ref q17, .ref q18, .null, .null, .null, .null, .null, .null, .null, .int 0])), (q0, .inl (kI, 50, .inl (fun _ => 0))), (q1, .inl (kZ, 50, .inl (fun _ => 0))), (q2, .inl (kI, 50, .inl (fun _ => 0))), (q3, .inl (kI, 50, .inl (fun _ => 0))), (q4, .inl (kI, 100, .inl (fun _ => 0))), (q5, .inl (kZ, 1000, .inl (fun _ => 0))), (q6, .inl (kI, 100, .inl (fun _ => 0))), (q7, .inl (kI, 100, .inl (fun _ => 0))), (q8, .inl (kI, 100, .inl (fun _ => 0))), (q9, .inl (kI, 100, .inl (fun _ => 0))), (q10, .inl (kI, 50, .inl (fun _ => 0))), (q11, .inl (kI, 50, .inl (fun _ => 0))), (q12, .inl (kI, 50, .inl (fun _ => 0))), (q13, .inl (kI, 50, .inl (fun _ => 0))), (q14, .inl (kI, 50, .inl (fun _ => 0))), (q15, .inl (kI, 300, .inl (fun _ => 0))), (q16, .inl (kI, 300, .inl (fun _ => 0))), (q17, .inl (kI, 300, .inl (fun _ => 0))), (q18, .inl (kI, 300, .inl (fun _ => 0)))] := hD
  refine lv_aload_n hx hb d_m_init_161 rfl (lv_at hl 0 rfl) ?_
  refine lv_sipush (v := 300) hx hb d_m_init_162 (by decide) ?_
  refine rl_newa (atype := .int) (ty := .int) (N' := 300) (a0 := (300, .inl (fun _ => 0))) hx hb (hG _ wd_58) rfl (fun _ h9 => by cases h9) 0 rfl hK hP hD hS hA (fun _ => rfl) (by decide) (by decide) (by decide) (Nat.le_of_ble_eq_true rfl) (Nat.le_of_ble_eq_true rfl) d_m_init_165 (fun q19 H hP hD hS => ?_)
  have hP : va_P D rl_cl [(h, .inr (5, [.int 0, .int 0, .int 0, .ref q0, .ref q1, .ref q2, .ref q3, .ref q4, .ref q5, .int 0, .ref q6, .ref q7, .ref q8, .ref q9, .int 0, .ref q10, .ref q11, .ref q12, .ref q13, .ref q14, .int 0, .ref q15, .ref q16, .ref q17, .ref q18, .null, .null, .null, .null, .null, .null, .null, .int 0])), (q0, .inl (kI, 50, .inl (fun _ => 0))), (q1, .inl (kZ, 50, .inl (fun _ => 0))), (q2, .inl (kI, 50, .inl (fun _ => 0))), (q3, .inl (kI, 50, .inl (fun _ => 0))), (q4, .inl (kI, 100, .inl (fun _ => 0))), (q5, .inl (kZ, 1000, .inl (fun _ => 0))), (q6, .inl (kI, 100, .inl (fun _ => 0))), (q7, .inl (kI, 100, .inl (fun _ => 0))), (q8, .inl (kI, 100, .inl (fun _ => 0))), (q9, .inl (kI, 100, .inl (fun _ => 0))), (q10, .inl (kI, 50, .inl (fun _ => 0))), (q11, .inl (kI, 50, .inl (fun _ => 0))), (q12, .inl (kI, 50, .inl (fun _ => 0))), (q13, .inl (kI, 50, .inl (fun _ => 0))), (q14, .inl (kI, 50, .inl (fun _ => 0))), (q15, .inl (kI, 300, .inl (fun _ => 0))), (q16, .inl (kI, 300, .inl (fun _ => 0))), (q17, .inl (kI, 300, .inl (fun _ => 0))), (q18, .inl (kI, 300, .inl (fun _ => 0))), (q19, .inl (kI, 300, .inl (fun _ => 0)))] H := hP
  have hD : va_D A [(h, .inr (5, [.int 0, .int 0, .int 0, .ref q0, .ref q1, .ref q2, .ref q3, .ref q4, .ref q5, .int 0, .ref q6, .ref q7, .ref q8, .ref q9, .int 0, .ref q10, .ref q11, .ref q12, .ref q13, .ref q14, .int 0, .ref q15, .ref q16, .ref q17, .ref q18, .null, .null, .null, .null, .null, .null, .null, .int 0])), (q0, .inl (kI, 50, .inl (fun _ => 0))), (q1, .inl (kZ, 50, .inl (fun _ => 0))), (q2, .inl (kI, 50, .inl (fun _ => 0))), (q3, .inl (kI, 50, .inl (fun _ => 0))), (q4, .inl (kI, 100, .inl (fun _ => 0))), (q5, .inl (kZ, 1000, .inl (fun _ => 0))), (q6, .inl (kI, 100, .inl (fun _ => 0))), (q7, .inl (kI, 100, .inl (fun _ => 0))), (q8, .inl (kI, 100, .inl (fun _ => 0))), (q9, .inl (kI, 100, .inl (fun _ => 0))), (q10, .inl (kI, 50, .inl (fun _ => 0))), (q11, .inl (kI, 50, .inl (fun _ => 0))), (q12, .inl (kI, 50, .inl (fun _ => 0))), (q13, .inl (kI, 50, .inl (fun _ => 0))), (q14, .inl (kI, 50, .inl (fun _ => 0))), (q15, .inl (kI, 300, .inl (fun _ => 0))), (q16, .inl (kI, 300, .inl (fun _ => 0))), (q17, .inl (kI, 300, .inl (fun _ => 0))), (q18, .inl (kI, 300, .inl (fun _ => 0))), (q19, .inl (kI, 300, .inl (fun _ => 0)))] := hD
  refine va_putF (D := D) (ci := 5) (v := .ref q19) (ty := fy_m 25) (C := "RightsLimitModel") (T := fT_m) (N := 33) hx hb hG fi_m fy_m fo_m fn_m hown hK hP hD hS 0 rfl rfl 25 (by decide) (hG _ wd_508) (fun _ h9 => h9) rfl hnm rfl (fo_m 25 (by decide)) rfl rfl (Nat.le_of_ble_eq_true rfl) d_m_init_167 (fun H locs hP hD hS => ?_)
  have hP : va_P D rl_cl [(h, .inr (5, [.int 0, .int 0, .int 0, .ref q0, .ref q1, .ref q2, .ref q3, .ref q4, .ref q5, .int 0, .ref q6, .ref q7, .ref q8, .ref q9, .int 0, .ref q10, .ref q11, .ref q12, .ref q13, .ref q14, .int 0, .ref q15, .ref q16, .ref q17, .ref q18, .ref q19, .null, .null, .null, .null, .null, .null, .int 0])), (q0, .inl (kI, 50, .inl (fun _ => 0))), (q1, .inl (kZ, 50, .inl (fun _ => 0))), (q2, .inl (kI, 50, .inl (fun _ => 0))), (q3, .inl (kI, 50, .inl (fun _ => 0))), (q4, .inl (kI, 100, .inl (fun _ => 0))), (q5, .inl (kZ, 1000, .inl (fun _ => 0))), (q6, .inl (kI, 100, .inl (fun _ => 0))), (q7, .inl (kI, 100, .inl (fun _ => 0))), (q8, .inl (kI, 100, .inl (fun _ => 0))), (q9, .inl (kI, 100, .inl (fun _ => 0))), (q10, .inl (kI, 50, .inl (fun _ => 0))), (q11, .inl (kI, 50, .inl (fun _ => 0))), (q12, .inl (kI, 50, .inl (fun _ => 0))), (q13, .inl (kI, 50, .inl (fun _ => 0))), (q14, .inl (kI, 50, .inl (fun _ => 0))), (q15, .inl (kI, 300, .inl (fun _ => 0))), (q16, .inl (kI, 300, .inl (fun _ => 0))), (q17, .inl (kI, 300, .inl (fun _ => 0))), (q18, .inl (kI, 300, .inl (fun _ => 0))), (q19, .inl (kI, 300, .inl (fun _ => 0)))] H := hP
  have hD : va_D A [(h, .inr (5, [.int 0, .int 0, .int 0, .ref q0, .ref q1, .ref q2, .ref q3, .ref q4, .ref q5, .int 0, .ref q6, .ref q7, .ref q8, .ref q9, .int 0, .ref q10, .ref q11, .ref q12, .ref q13, .ref q14, .int 0, .ref q15, .ref q16, .ref q17, .ref q18, .ref q19, .null, .null, .null, .null, .null, .null, .int 0])), (q0, .inl (kI, 50, .inl (fun _ => 0))), (q1, .inl (kZ, 50, .inl (fun _ => 0))), (q2, .inl (kI, 50, .inl (fun _ => 0))), (q3, .inl (kI, 50, .inl (fun _ => 0))), (q4, .inl (kI, 100, .inl (fun _ => 0))), (q5, .inl (kZ, 1000, .inl (fun _ => 0))), (q6, .inl (kI, 100, .inl (fun _ => 0))), (q7, .inl (kI, 100, .inl (fun _ => 0))), (q8, .inl (kI, 100, .inl (fun _ => 0))), (q9, .inl (kI, 100, .inl (fun _ => 0))), (q10, .inl (kI, 50, .inl (fun _ => 0))), (q11, .inl (kI, 50, .inl (fun _ => 0))), (q12, .inl (kI, 50, .inl (fun _ => 0))), (q13, .inl (kI, 50, .inl (fun _ => 0))), (q14, .inl (kI, 50, .inl (fun _ => 0))), (q15, .inl (kI, 300, .inl (fun _ => 0))), (q16, .inl (kI, 300, .inl (fun _ => 0))), (q17, .inl (kI, 300, .inl (fun _ => 0))), (q18, .inl (kI, 300, .inl (fun _ => 0))), (q19, .inl (kI, 300, .inl (fun _ => 0)))] := hD
  refine lv_aload_n hx hb d_m_init_170 rfl (lv_at hl 0 rfl) ?_
  refine lv_sipush (v := 300) hx hb d_m_init_171 (by decide) ?_
  refine rl_newa (atype := .int) (ty := .int) (N' := 300) (a0 := (300, .inl (fun _ => 0))) hx hb (hG _ wd_58) rfl (fun _ h9 => by cases h9) 0 rfl hK hP hD hS hA (fun _ => rfl) (by decide) (by decide) (by decide) (Nat.le_of_ble_eq_true rfl) (Nat.le_of_ble_eq_true rfl) d_m_init_174 (fun q20 H hP hD hS => ?_)
  have hP : va_P D rl_cl [(h, .inr (5, [.int 0, .int 0, .int 0, .ref q0, .ref q1, .ref q2, .ref q3, .ref q4, .ref q5, .int 0, .ref q6, .ref q7, .ref q8, .ref q9, .int 0, .ref q10, .ref q11, .ref q12, .ref q13, .ref q14, .int 0, .ref q15, .ref q16, .ref q17, .ref q18, .ref q19, .null, .null, .null, .null, .null, .null, .int 0])), (q0, .inl (kI, 50, .inl (fun _ => 0))), (q1, .inl (kZ, 50, .inl (fun _ => 0))), (q2, .inl (kI, 50, .inl (fun _ => 0))), (q3, .inl (kI, 50, .inl (fun _ => 0))), (q4, .inl (kI, 100, .inl (fun _ => 0))), (q5, .inl (kZ, 1000, .inl (fun _ => 0))), (q6, .inl (kI, 100, .inl (fun _ => 0))), (q7, .inl (kI, 100, .inl (fun _ => 0))), (q8, .inl (kI, 100, .inl (fun _ => 0))), (q9, .inl (kI, 100, .inl (fun _ => 0))), (q10, .inl (kI, 50, .inl (fun _ => 0))), (q11, .inl (kI, 50, .inl (fun _ => 0))), (q12, .inl (kI, 50, .inl (fun _ => 0))), (q13, .inl (kI, 50, .inl (fun _ => 0))), (q14, .inl (kI, 50, .inl (fun _ => 0))), (q15, .inl (kI, 300, .inl (fun _ => 0))), (q16, .inl (kI, 300, .inl (fun _ => 0))), (q17, .inl (kI, 300, .inl (fun _ => 0))), (q18, .inl (kI, 300, .inl (fun _ => 0))), (q19, .inl (kI, 300, .inl (fun _ => 0))), (q20, .inl (kI, 300, .inl (fun _ => 0)))] H := hP
  have hD : va_D A [(h, .inr (5, [.int 0, .int 0, .int 0, .ref q0, .ref q1, .ref q2, .ref q3, .ref q4, .ref q5, .int 0, .ref q6, .ref q7, .ref q8, .ref q9, .int 0, .ref q10, .ref q11, .ref q12, .ref q13, .ref q14, .int 0, .ref q15, .ref q16, .ref q17, .ref q18, .ref q19, .null, .null, .null, .null, .null, .null, .int 0])), (q0, .inl (kI, 50, .inl (fun _ => 0))), (q1, .inl (kZ, 50, .inl (fun _ => 0))), (q2, .inl (kI, 50, .inl (fun _ => 0))), (q3, .inl (kI, 50, .inl (fun _ => 0))), (q4, .inl (kI, 100, .inl (fun _ => 0))), (q5, .inl (kZ, 1000, .inl (fun _ => 0))), (q6, .inl (kI, 100, .inl (fun _ => 0))), (q7, .inl (kI, 100, .inl (fun _ => 0))), (q8, .inl (kI, 100, .inl (fun _ => 0))), (q9, .inl (kI, 100, .inl (fun _ => 0))), (q10, .inl (kI, 50, .inl (fun _ => 0))), (q11, .inl (kI, 50, .inl (fun _ => 0))), (q12, .inl (kI, 50, .inl (fun _ => 0))), (q13, .inl (kI, 50, .inl (fun _ => 0))), (q14, .inl (kI, 50, .inl (fun _ => 0))), (q15, .inl (kI, 300, .inl (fun _ => 0))), (q16, .inl (kI, 300, .inl (fun _ => 0))), (q17, .inl (kI, 300, .inl (fun _ => 0))), (q18, .inl (kI, 300, .inl (fun _ => 0))), (q19, .inl (kI, 300, .inl (fun _ => 0))), (q20, .inl (kI, 300, .inl (fun _ => 0)))] := hD
  refine va_putF (D := D) (ci := 5) (v := .ref q20) (ty := fy_m 26) (C := "RightsLimitModel") (T := fT_m) (N := 33) hx hb hG fi_m fy_m fo_m fn_m hown hK hP hD hS 0 rfl rfl 26 (by decide) (hG _ wd_509) (fun _ h9 => h9) rfl hnm rfl (fo_m 26 (by decide)) rfl rfl (Nat.le_of_ble_eq_true rfl) d_m_init_176 (fun H locs hP hD hS => ?_)
  have hP : va_P D rl_cl [(h, .inr (5, [.int 0, .int 0, .int 0, .ref q0, .ref q1, .ref q2, .ref q3, .ref q4, .ref q5, .int 0, .ref q6, .ref q7, .ref q8, .ref q9, .int 0, .ref q10, .ref q11, .ref q12, .ref q13, .ref q14, .int 0, .ref q15, .ref q16, .ref q17, .ref q18, .ref q19, .ref q20, .null, .null, .null, .null, .null, .int 0])), (q0, .inl (kI, 50, .inl (fun _ => 0))), (q1, .inl (kZ, 50, .inl (fun _ => 0))), (q2, .inl (kI, 50, .inl (fun _ => 0))), (q3, .inl (kI, 50, .inl (fun _ => 0))), (q4, .inl (kI, 100, .inl (fun _ => 0))), (q5, .inl (kZ, 1000, .inl (fun _ => 0))), (q6, .inl (kI, 100, .inl (fun _ => 0))), (q7, .inl (kI, 100, .inl (fun _ => 0))), (q8, .inl (kI, 100, .inl (fun _ => 0))), (q9, .inl (kI, 100, .inl (fun _ => 0))), (q10, .inl (kI, 50, .inl (fun _ => 0))), (q11, .inl (kI, 50, .inl (fun _ => 0))), (q12, .inl (kI, 50, .inl (fun _ => 0))), (q13, .inl (kI, 50, .inl (fun _ => 0))), (q14, .inl (kI, 50, .inl (fun _ => 0))), (q15, .inl (kI, 300, .inl (fun _ => 0))), (q16, .inl (kI, 300, .inl (fun _ => 0))), (q17, .inl (kI, 300, .inl (fun _ => 0))), (q18, .inl (kI, 300, .inl (fun _ => 0))), (q19, .inl (kI, 300, .inl (fun _ => 0))), (q20, .inl (kI, 300, .inl (fun _ => 0)))] H := hP
  have hD : va_D A [(h, .inr (5, [.int 0, .int 0, .int 0, .ref q0, .ref q1, .ref q2, .ref q3, .ref q4, .ref q5, .int 0, .ref q6, .ref q7, .ref q8, .ref q9, .int 0, .ref q10, .ref q11, .ref q12, .ref q13, .ref q14, .int 0, .ref q15, .ref q16, .ref q17, .ref q18, .ref q19, .ref q20, .null, .null, .null, .null, .null, .int 0])), (q0, .inl (kI, 50, .inl (fun _ => 0))), (q1, .inl (kZ, 50, .inl (fun _ => 0))), (q2, .inl (kI, 50, .inl (fun _ => 0))), (q3, .inl (kI, 50, .inl (fun _ => 0))), (q4, .inl (kI, 100, .inl (fun _ => 0))), (q5, .inl (kZ, 1000, .inl (fun _ => 0))), (q6, .inl (kI, 100, .inl (fun _ => 0))), (q7, .inl (kI, 100, .inl (fun _ => 0))), (q8, .inl (kI, 100, .inl (fun _ => 0))), (q9, .inl (kI, 100, .inl (fun _ => 0))), (q10, .inl (kI, 50, .inl (fun _ => 0))), (q11, .inl (kI, 50, .inl (fun _ => 0))), (q12, .inl (kI, 50, .inl (fun _ => 0))), (q13, .inl (kI, 50, .inl (fun _ => 0))), (q14, .inl (kI, 50, .inl (fun _ => 0))), (q15, .inl (kI, 300, .inl (fun _ => 0))), (q16, .inl (kI, 300, .inl (fun _ => 0))), (q17, .inl (kI, 300, .inl (fun _ => 0))), (q18, .inl (kI, 300, .inl (fun _ => 0))), (q19, .inl (kI, 300, .inl (fun _ => 0))), (q20, .inl (kI, 300, .inl (fun _ => 0)))] := hD
  refine lv_aload_n hx hb d_m_init_179 rfl (lv_at hl 0 rfl) ?_
  refine lv_sipush (v := 300) hx hb d_m_init_180 (by decide) ?_
  refine rl_newa (atype := .int) (ty := .int) (N' := 300) (a0 := (300, .inl (fun _ => 0))) hx hb (hG _ wd_58) rfl (fun _ h9 => by cases h9) 0 rfl hK hP hD hS hA (fun _ => rfl) (by decide) (by decide) (by decide) (Nat.le_of_ble_eq_true rfl) (Nat.le_of_ble_eq_true rfl) d_m_init_183 (fun q21 H hP hD hS => ?_)
  have hP : va_P D rl_cl [(h, .inr (5, [.int 0, .int 0, .int 0, .ref q0, .ref q1, .ref q2, .ref q3, .ref q4, .ref q5, .int 0, .ref q6, .ref q7, .ref q8, .ref q9, .int 0, .ref q10, .ref q11, .ref q12, .ref q13, .ref q14, .int 0, .ref q15, .ref q16, .ref q17, .ref q18, .ref q19, .ref q20, .null, .null, .null, .null, .null, .int 0])), (q0, .inl (kI, 50, .inl (fun _ => 0))), (q1, .inl (kZ, 50, .inl (fun _ => 0))), (q2, .inl (kI, 50, .inl (fun _ => 0))), (q3, .inl (kI, 50, .inl (fun _ => 0))), (q4, .inl (kI, 100, .inl (fun _ => 0))), (q5, .inl (kZ, 1000, .inl (fun _ => 0))), (q6, .inl (kI, 100, .inl (fun _ => 0))), (q7, .inl (kI, 100, .inl (fun _ => 0))), (q8, .inl (kI, 100, .inl (fun _ => 0))), (q9, .inl (kI, 100, .inl (fun _ => 0))), (q10, .inl (kI, 50, .inl (fun _ => 0))), (q11, .inl (kI, 50, .inl (fun _ => 0))), (q12, .inl (kI, 50, .inl (fun _ => 0))), (q13, .inl (kI, 50, .inl (fun _ => 0))), (q14, .inl (kI, 50, .inl (fun _ => 0))), (q15, .inl (kI, 300, .inl (fun _ => 0))), (q16, .inl (kI, 300, .inl (fun _ => 0))), (q17, .inl (kI, 300, .inl (fun _ => 0))), (q18, .inl (kI, 300, .inl (fun _ => 0))), (q19, .inl (kI, 300, .inl (fun _ => 0))), (q20, .inl (kI, 300, .inl (fun _ => 0))), (q21, .inl (kI, 300, .inl (fun _ => 0)))] H := hP
  have hD : va_D A [(h, .inr (5, [.int 0, .int 0, .int 0, .ref q0, .ref q1, .ref q2, .ref q3, .ref q4, .ref q5, .int 0, .ref q6, .ref q7, .ref q8, .ref q9, .int 0, .ref q10, .ref q11, .ref q12, .ref q13, .ref q14, .int 0, .ref q15, .ref q16, .ref q17, .ref q18, .ref q19, .ref q20, .null, .null, .null, .null, .null, .int 0])), (q0, .inl (kI, 50, .inl (fun _ => 0))), (q1, .inl (kZ, 50, .inl (fun _ => 0))), (q2, .inl (kI, 50, .inl (fun _ => 0))), (q3, .inl (kI, 50, .inl (fun _ => 0))), (q4, .inl (kI, 100, .inl (fun _ => 0))), (q5, .inl (kZ, 1000, .inl (fun _ => 0))), (q6, .inl (kI, 100, .inl (fun _ => 0))), (q7, .inl (kI, 100, .inl (fun _ => 0))), (q8, .inl (kI, 100, .inl (fun _ => 0))), (q9, .inl (kI, 100, .inl (fun _ => 0))), (q10, .inl (kI, 50, .inl (fun _ => 0))), (q11, .inl (kI, 50, .inl (fun _ => 0))), (q12, .inl (kI, 50, .inl (fun _ => 0))), (q13, .inl (kI, 50, .inl (fun _ => 0))), (q14, .inl (kI, 50, .inl (fun _ => 0))), (q15, .inl (kI, 300, .inl (fun _ => 0))), (q16, .inl (kI, 300, .inl (fun _ => 0))), (q17, .inl (kI, 300, .inl (fun _ => 0))), (q18, .inl (kI, 300, .inl (fun _ => 0))), (q19, .inl (kI, 300, .inl (fun _ => 0))), (q20, .inl (kI, 300, .inl (fun _ => 0))), (q21, .inl (kI, 300, .inl (fun _ => 0)))] := hD
  refine va_putF (D := D) (ci := 5) (v := .ref q21) (ty := fy_m 27) (C := "RightsLimitModel") (T := fT_m) (N := 33) hx hb hG fi_m fy_m fo_m fn_m hown hK hP hD hS 0 rfl rfl 27 (by decide) (hG _ wd_510) (fun _ h9 => h9) rfl hnm rfl (fo_m 27 (by decide)) rfl rfl (Nat.le_of_ble_eq_true rfl) d_m_init_185 (fun H locs hP hD hS => ?_)
  have hP : va_P D rl_cl [(h, .inr (5, [.int 0, .int 0, .int 0, .ref q0, .ref q1, .ref q2, .ref q3, .ref q4, .ref q5, .int 0, .ref q6, .ref q7, .ref q8, .ref q9, .int 0, .ref q10, .ref q11, .ref q12, .ref q13, .ref q14, .int 0, .ref q15, .ref q16, .ref q17, .ref q18, .ref q19, .ref q20, .ref q21, .null, .null, .null, .null, .int 0])), (q0, .inl (kI, 50, .inl (fun _ => 0))), (q1, .inl (kZ, 50, .inl (fun _ => 0))), (q2, .inl (kI, 50, .inl (fun _ => 0))), (q3, .inl (kI, 50, .inl (fun _ => 0))), (q4, .inl (kI, 100, .inl (fun _ => 0))), (q5, .inl (kZ, 1000, .inl (fun _ => 0))), (q6, .inl (kI, 100, .inl (fun _ => 0))), (q7, .inl (kI, 100, .inl (fun _ => 0))), (q8, .inl (kI, 100, .inl (fun _ => 0))), (q9, .inl (kI, 100, .inl (fun _ => 0))), (q10, .inl (kI, 50, .inl (fun _ => 0))), (q11, .inl (kI, 50, .inl (fun _ => 0))), (q12, .inl (kI, 50, .inl (fun _ => 0))), (q13, .inl (kI, 50, .inl (fun _ => 0))), (q14, .inl (kI, 50, .inl (fun _ => 0))), (q15, .inl (kI, 300, .inl (fun _ => 0))), (q16, .inl (kI, 300, .inl (fun _ => 0))), (q17, .inl (kI, 300, .inl (fun _ => 0))), (q18, .inl (kI, 300, .inl (fun _ => 0))), (q19, .inl (kI, 300, .inl (fun _ => 0))), (q20, .inl (kI, 300, .inl (fun _ => 0))), (q21, .inl (kI, 300, .inl (fun _ => 0)))] H := hP
  have hD : va_D A [(h, .inr (5, [.int 0, .int 0, .int 0, .ref q0, .ref q1, .ref q2, .ref q3, .ref q4, .ref q5, .int 0, .ref q6, .ref q7, .ref q8, .ref q9, .int 0, .ref q10, .ref q11, .ref q12, .ref q13, .ref q14, .int 0, .ref q15, .ref q16, .ref q17, .ref q18, .ref q19, .ref q20, .ref q21, .null, .null, .null, .null, .int 0])), (q0, .inl (kI, 50, .inl (fun _ => 0))), (q1, .inl (kZ, 50, .inl (fun _ => 0))), (q2, .inl (kI, 50, .inl (fun _ => 0))), (q3, .inl (kI, 50, .inl (fun _ => 0))), (q4, .inl (kI, 100, .inl (fun _ => 0))), (q5, .inl (kZ, 1000, .inl (fun _ => 0))), (q6, .inl (kI, 100, .inl (fun _ => 0))), (q7, .inl (kI, 100, .inl (fun _ => 0))), (q8, .inl (kI, 100, .inl (fun _ => 0))), (q9, .inl (kI, 100, .inl (fun _ => 0))), (q10, .inl (kI, 50, .inl (fun _ => 0))), (q11, .inl (kI, 50, .inl (fun _ => 0))), (q12, .inl (kI, 50, .inl (fun _ => 0))), (q13, .inl (kI, 50, .inl (fun _ => 0))), (q14, .inl (kI, 50, .inl (fun _ => 0))), (q15, .inl (kI, 300, .inl (fun _ => 0))), (q16, .inl (kI, 300, .inl (fun _ => 0))), (q17, .inl (kI, 300, .inl (fun _ => 0))), (q18, .inl (kI, 300, .inl (fun _ => 0))), (q19, .inl (kI, 300, .inl (fun _ => 0))), (q20, .inl (kI, 300, .inl (fun _ => 0))), (q21, .inl (kI, 300, .inl (fun _ => 0)))] := hD
  refine lv_aload_n hx hb d_m_init_188 rfl (lv_at hl 0 rfl) ?_
  refine lv_sipush (v := 300) hx hb d_m_init_189 (by decide) ?_
  refine rl_newa (atype := .int) (ty := .int) (N' := 300) (a0 := (300, .inl (fun _ => 0))) hx hb (hG _ wd_58) rfl (fun _ h9 => by cases h9) 0 rfl hK hP hD hS hA (fun _ => rfl) (by decide) (by decide) (by decide) (Nat.le_of_ble_eq_true rfl) (Nat.le_of_ble_eq_true rfl) d_m_init_192 (fun q22 H hP hD hS => ?_)
  have hP : va_P D rl_cl [(h, .inr (5, [.int 0, .int 0, .int 0, .ref q0, .ref q1, .ref q2, .ref q3, .ref q4, .ref q5, .int 0, .ref q6, .ref q7, .ref q8, .ref q9, .int 0, .ref q10, .ref q11, .ref q12, .ref q13, .ref q14, .int 0, .ref q15, .ref q16, .ref q17, .ref q18, .ref q19, .ref q20, .ref q21, .null, .null, .null, .null, .int 0])), (q0, .inl (kI, 50, .inl (fun _ => 0))), (q1, .inl (kZ, 50, .inl (fun _ => 0))), (q2, .inl (kI, 50, .inl (fun _ => 0))), (q3, .inl (kI, 50, .inl (fun _ => 0))), (q4, .inl (kI, 100, .inl (fun _ => 0))), (q5, .inl (kZ, 1000, .inl (fun _ => 0))), (q6, .inl (kI, 100, .inl (fun _ => 0))), (q7, .inl (kI, 100, .inl (fun _ => 0))), (q8, .inl (kI, 100, .inl (fun _ => 0))), (q9, .inl (kI, 100, .inl (fun _ => 0))), (q10, .inl (kI, 50, .inl (fun _ => 0))), (q11, .inl (kI, 50, .inl (fun _ => 0))), (q12, .inl (kI, 50, .inl (fun _ => 0))), (q13, .inl (kI, 50, .inl (fun _ => 0))), (q14, .inl (kI, 50, .inl (fun _ => 0))), (q15, .inl (kI, 300, .inl (fun _ => 0))), (q16, .inl (kI, 300, .inl (fun _ => 0))), (q17, .inl (kI, 300, .inl (fun _ => 0))), (q18, .inl (kI, 300, .inl (fun _ => 0))), (q19, .inl (kI, 300, .inl (fun _ => 0))), (q20, .inl (kI, 300, .inl (fun _ => 0))), (q21, .inl (kI, 300, .inl (fun _ => 0))), (q22, .inl (kI, 300, .inl (fun _ => 0)))] H := hP
  have hD : va_D A [(h, .inr (5, [.int 0, .int 0, .int 0, .ref q0, .ref q1, .ref q2, .ref q3, .ref q4, .ref q5, .int 0, .ref q6, .ref q7, .ref q8, .ref q9, .int 0, .ref q10, .ref q11, .ref q12, .ref q13, .ref q14, .int 0, .ref q15, .ref q16, .ref q17, .ref q18, .ref q19, .ref q20, .ref q21, .null, .null, .null, .null, .int 0])), (q0, .inl (kI, 50, .inl (fun _ => 0))), (q1, .inl (kZ, 50, .inl (fun _ => 0))), (q2, .inl (kI, 50, .inl (fun _ => 0))), (q3, .inl (kI, 50, .inl (fun _ => 0))), (q4, .inl (kI, 100, .inl (fun _ => 0))), (q5, .inl (kZ, 1000, .inl (fun _ => 0))), (q6, .inl (kI, 100, .inl (fun _ => 0))), (q7, .inl (kI, 100, .inl (fun _ => 0))), (q8, .inl (kI, 100, .inl (fun _ => 0))), (q9, .inl (kI, 100, .inl (fun _ => 0))), (q10, .inl (kI, 50, .inl (fun _ => 0))), (q11, .inl (kI, 50, .inl (fun _ => 0))), (q12, .inl (kI, 50, .inl (fun _ => 0))), (q13, .inl (kI, 50, .inl (fun _ => 0))), (q14, .inl (kI, 50, .inl (fun _ => 0))), (q15, .inl (kI, 300, .inl (fun _ => 0))), (q16, .inl (kI, 300, .inl (fun _ => 0))), (q17, .inl (kI, 300, .inl (fun _ => 0))), (q18, .inl (kI, 300, .inl (fun _ => 0))), (q19, .inl (kI, 300, .inl (fun _ => 0))), (q20, .inl (kI, 300, .inl (fun _ => 0))), (q21, .inl (kI, 300, .inl (fun _ => 0))), (q22, .inl (kI, 300, .inl (fun _ => 0)))] := hD
  refine va_putF (D := D) (ci := 5) (v := .ref q22) (ty := fy_m 28) (C := "RightsLimitModel") (T := fT_m) (N := 33) hx hb hG fi_m fy_m fo_m fn_m hown hK hP hD hS 0 rfl rfl 28 (by decide) (hG _ wd_511) (fun _ h9 => h9) rfl hnm rfl (fo_m 28 (by decide)) rfl rfl (Nat.le_of_ble_eq_true rfl) d_m_init_194 (fun H locs hP hD hS => ?_)
  have hP : va_P D rl_cl [(h, .inr (5, [.int 0, .int 0, .int 0, .ref q0, .ref q1, .ref q2, .ref q3, .ref q4, .ref q5, .int 0, .ref q6, .ref q7, .ref q8, .ref q9, .int 0, .ref q10, .ref q11, .ref q12, .ref q13, .ref q14, .int 0, .ref q15, .ref q16, .ref q17, .ref q18, .ref q19, .ref q20, .ref q21, .ref q22, .null, .null, .null, .int 0])), (q0, .inl (kI, 50, .inl (fun _ => 0))), (q1, .inl (kZ, 50, .inl (fun _ => 0))), (q2, .inl (kI, 50, .inl (fun _ => 0))), (q3, .inl (kI, 50, .inl (fun _ => 0))), (q4, .inl (kI, 100, .inl (fun _ => 0))), (q5, .inl (kZ, 1000, .inl (fun _ => 0))), (q6, .inl (kI, 100, .inl (fun _ => 0))), (q7, .inl (kI, 100, .inl (fun _ => 0))), (q8, .inl (kI, 100, .inl (fun _ => 0))), (q9, .inl (kI, 100, .inl (fun _ => 0))), (q10, .inl (kI, 50, .inl (fun _ => 0))), (q11, .inl (kI, 50, .inl (fun _ => 0))), (q12, .inl (kI, 50, .inl (fun _ => 0))), (q13, .inl (kI, 50, .inl (fun _ => 0))), (q14, .inl (kI, 50, .inl (fun _ => 0))), (q15, .inl (kI, 300, .inl (fun _ => 0))), (q16, .inl (kI, 300, .inl (fun _ => 0))), (q17, .inl (kI, 300, .inl (fun _ => 0))), (q18, .inl (kI, 300, .inl (fun _ => 0))), (q19, .inl (kI, 300, .inl (fun _ => 0))), (q20, .inl (kI, 300, .inl (fun _ => 0))), (q21, .inl (kI, 300, .inl (fun _ => 0))), (q22, .inl (kI, 300, .inl (fun _ => 0)))] H := hP
  have hD : va_D A [(h, .inr (5, [.int 0, .int 0, .int 0, .ref q0, .ref q1, .ref q2, .ref q3, .ref q4, .ref q5, .int 0, .ref q6, .ref q7, .ref q8, .ref q9, .int 0, .ref q10, .ref q11, .ref q12, .ref q13, .ref q14, .int 0, .ref q15, .ref q16, .ref q17, .ref q18, .ref q19, .ref q20, .ref q21, .ref q22, .null, .null, .null, .int 0])), (q0, .inl (kI, 50, .inl (fun _ => 0))), (q1, .inl (kZ, 50, .inl (fun _ => 0))), (q2, .inl (kI, 50, .inl (fun _ => 0))), (q3, .inl (kI, 50, .inl (fun _ => 0))), (q4, .inl (kI, 100, .inl (fun _ => 0))), (q5, .inl (kZ, 1000, .inl (fun _ => 0))), (q6, .inl (kI, 100, .inl (fun _ => 0))), (q7, .inl (kI, 100, .inl (fun _ => 0))), (q8, .inl (kI, 100, .inl (fun _ => 0))), (q9, .inl (kI, 100, .inl (fun _ => 0))), (q10, .inl (kI, 50, .inl (fun _ => 0))), (q11, .inl (kI, 50, .inl (fun _ => 0))), (q12, .inl (kI, 50, .inl (fun _ => 0))), (q13, .inl (kI, 50, .inl (fun _ => 0))), (q14, .inl (kI, 50, .inl (fun _ => 0))), (q15, .inl (kI, 300, .inl (fun _ => 0))), (q16, .inl (kI, 300, .inl (fun _ => 0))), (q17, .inl (kI, 300, .inl (fun _ => 0))), (q18, .inl (kI, 300, .inl (fun _ => 0))), (q19, .inl (kI, 300, .inl (fun _ => 0))), (q20, .inl (kI, 300, .inl (fun _ => 0))), (q21, .inl (kI, 300, .inl (fun _ => 0))), (q22, .inl (kI, 300, .inl (fun _ => 0)))] := hD
  refine lv_aload_n hx hb d_m_init_197 rfl (lv_at hl 0 rfl) ?_
  refine lv_sipush (v := 300) hx hb d_m_init_198 (by decide) ?_
  refine rl_newa (atype := .int) (ty := .int) (N' := 300) (a0 := (300, .inl (fun _ => 0))) hx hb (hG _ wd_58) rfl (fun _ h9 => by cases h9) 0 rfl hK hP hD hS hA (fun _ => rfl) (by decide) (by decide) (by decide) (Nat.le_of_ble_eq_true rfl) (Nat.le_of_ble_eq_true rfl) d_m_init_201 (fun q23 H hP hD hS => ?_)
  have hP : va_P D rl_cl [(h, .inr (5, [.int 0, .int 0, .int 0, .ref q0, .ref q1, .ref q2, .ref q3, .ref q4, .ref q5, .int 0, .ref q6, .ref q7, .ref q8, .ref q9, .int 0, .ref q10, .ref q11, .ref q12, .ref q13, .ref q14, .int 0, .ref q15, .ref q16, .ref q17, .ref q18, .ref q19, .ref q20, .ref q21, .ref q22, .null, .null, .null, .int 0])), (q0, .inl (kI, 50, .inl (fun _ => 0))), (q1, .inl (kZ, 50, .inl (fun _ => 0))), (q2, .inl (kI, 50, .inl (fun _ => 0))), (q3, .inl (kI, 50, .inl (fun _ => 0))), (q4, .inl (kI, 100, .inl (fun _ => 0))), (q5, .inl (kZ, 1000, .inl (fun _ => 0))), (q6, .inl (kI, 100, .inl (fun _ => 0))), (q7, .inl (kI, 100, .inl (fun _ => 0))), (q8, .inl (kI, 100, .inl (fun _ => 0))), (q9, .inl (kI, 100, .inl (fun _ => 0))), (q10, .inl (kI, 50, .inl (fun _ => 0))), (q11, .inl (kI, 50, .inl (fun _ => 0))), (q12, .inl (kI, 50, .inl (fun _ => 0))), (q13, .inl (kI, 50, .inl (fun _ => 0))), (q14, .inl (kI, 50, .inl (fun _ => 0))), (q15, .inl (kI, 300, .inl (fun _ => 0))), (q16, .inl (kI, 300, .inl (fun _ => 0))), (q17, .inl (kI, 300, .inl (fun _ => 0))), (q18, .inl (kI, 300, .inl (fun _ => 0))), (q19, .inl (kI, 300, .inl (fun _ => 0))), (q20, .inl (kI, 300, .inl (fun _ => 0))), (q21, .inl (kI, 300, .inl (fun _ => 0))), (q22, .inl (kI, 300, .inl (fun _ => 0))), (q23, .inl (kI, 300, .inl (fun _ => 0)))] H := hP
  have hD : va_D A [(h, .inr (5, [.int 0, .int 0, .int 0, .ref q0, .ref q1, .ref q2, .ref q3, .ref q4, .ref q5, .int 0, .ref q6, .ref q7, .ref q8, .ref q9, .int 0, .ref q10, .ref q11, .ref q12, .ref q13, .ref q14, .int 0, .ref q15, .ref q16, .ref q17, .ref q18, .ref q19, .ref q20, .ref q21, .ref q22, .null, .null, .null, .int 0])), (q0, .inl (kI, 50, .inl (fun _ => 0))), (q1, .inl (kZ, 50, .inl (fun _ => 0))), (q2, .inl (kI, 50, .inl (fun _ => 0))), (q3, .inl (kI, 50, .inl (fun _ => 0))), (q4, .inl (kI, 100, .inl (fun _ => 0))), (q5, .inl (kZ, 1000, .inl (fun _ => 0))), (q6, .inl (kI, 100, .inl (fun _ => 0))), (q7, .inl (kI, 100, .inl (fun _ => 0))), (q8, .inl (kI, 100, .inl (fun _ => 0))), (q9, .inl (kI, 100, .inl (fun _ => 0))), (q10, .inl (kI, 50, .inl (fun _ => 0))), (q11, .inl (kI, 50, .inl (fun _ => 0))), (q12, .inl (kI, 50, .inl (fun _ => 0))), (q13, .inl (kI, 50, .inl (fun _ => 0))), (q14, .inl (kI, 50, .inl (fun _ => 0))), (q15, .inl (kI, 300, .inl (fun _ => 0))), (q16, .inl (kI, 300, .inl (fun _ => 0))), (q17, .inl (kI, 300, .inl (fun _ => 0))), (q18, .inl (kI, 300, .inl (fun _ => 0))), (q19, .inl (kI, 300, .inl (fun _ => 0))), (q20, .inl (kI, 300, .inl (fun _ => 0))), (q21, .inl (kI, 300, .inl (fun _ => 0))), (q22, .inl (kI, 300, .inl (fun _ => 0))), (q23, .inl (kI, 300, .inl (fun _ => 0)))] := hD
  refine va_putF (D := D) (ci := 5) (v := .ref q23) (ty := fy_m 29) (C := "RightsLimitModel") (T := fT_m) (N := 33) hx hb hG fi_m fy_m fo_m fn_m hown hK hP hD hS 0 rfl rfl 29 (by decide) (hG _ wd_512) (fun _ h9 => h9) rfl hnm rfl (fo_m 29 (by decide)) rfl rfl (Nat.le_of_ble_eq_true rfl) d_m_init_203 (fun H locs hP hD hS => ?_)
  have hP : va_P D rl_cl [(h, .inr (5, [.int 0, .int 0, .int 0, .ref q0, .ref q1, .ref q2, .ref q3, .ref q4, .ref q5, .int 0, .ref q6, .ref q7, .ref q8, .ref q9, .int 0, .ref q10, .ref q11, .ref q12, .ref q13, .ref q14, .int 0, .ref q15, .ref q16, .ref q17, .ref q18, .ref q19, .ref q20, .ref q21, .ref q22, .ref q23, .null, .null, .int 0])), (q0, .inl (kI, 50, .inl (fun _ => 0))), (q1, .inl (kZ, 50, .inl (fun _ => 0))), (q2, .inl (kI, 50, .inl (fun _ => 0))), (q3, .inl (kI, 50, .inl (fun _ => 0))), (q4, .inl (kI, 100, .inl (fun _ => 0))), (q5, .inl (kZ, 1000, .inl (fun _ => 0))), (q6, .inl (kI, 100, .inl (fun _ => 0))), (q7, .inl (kI, 100, .inl (fun _ => 0))), (q8, .inl (kI, 100, .inl (fun _ => 0))), (q9, .inl (kI, 100, .inl (fun _ => 0))), (q10, .inl (kI, 50, .inl (fun _ => 0))), (q11, .inl (kI, 50, .inl (fun _ => 0))), (q12, .inl (kI, 50, .inl (fun _ => 0))), (q13, .inl (kI, 50, .inl (fun _ => 0))), (q14, .inl (kI, 50, .inl (fun _ => 0))), (q15, .inl (kI, 300, .inl (fun _ => 0))), (q16, .inl (kI, 300, .inl (fun _ => 0))), (q17, .inl (kI, 300, .inl (fun _ => 0))), (q18, .inl (kI, 300, .inl (fun _ => 0))), (q19, .inl (kI, 300, .inl (fun _ => 0))), (q20, .inl (kI, 300, .inl (fun _ => 0))), (q21, .inl (kI, 300, .inl (fun _ => 0))), (q22, .inl (kI, 300, .inl (fun _ => 0))), (q23, .inl (kI, 300, .inl (fun _ => 0)))] H := hP
  have hD : va_D A [(h, .inr (5, [.int 0, .int 0, .int 0, .ref q0, .ref q1, .ref q2, .ref q3, .ref q4, .ref q5, .int 0, .ref q6, .ref q7, .ref q8, .ref q9, .int 0, .ref q10, .ref q11, .ref q12, .ref q13, .ref q14, .int 0, .ref q15, .ref q16, .ref q17, .ref q18, .ref q19, .ref q20, .ref q21, .ref q22, .ref q23, .null, .null, .int 0])), (q0, .inl (kI, 50, .inl (fun _ => 0))), (q1, .inl (kZ, 50, .inl (fun _ => 0))), (q2, .inl (kI, 50, .inl (fun _ => 0))), (q3, .inl (kI, 50, .inl (fun _ => 0))), (q4, .inl (kI, 100, .inl (fun _ => 0))), (q5, .inl (kZ, 1000, .inl (fun _ => 0))), (q6, .inl (kI, 100, .inl (fun _ => 0))), (q7, .inl (kI, 100, .inl (fun _ => 0))), (q8, .inl (kI, 100, .inl (fun _ => 0))), (q9, .inl (kI, 100, .inl (fun _ => 0))), (q10, .inl (kI, 50, .inl (fun _ => 0))), (q11, .inl (kI, 50, .inl (fun _ => 0))), (q12, .inl (kI, 50, .inl (fun _ => 0))), (q13, .inl (kI, 50, .inl (fun _ => 0))), (q14, .inl (kI, 50, .inl (fun _ => 0))), (q15, .inl (kI, 300, .inl (fun _ => 0))), (q16, .inl (kI, 300, .inl (fun _ => 0))), (q17, .inl (kI, 300, .inl (fun _ => 0))), (q18, .inl (kI, 300, .inl (fun _ => 0))), (q19, .inl (kI, 300, .inl (fun _ => 0))), (q20, .inl (kI, 300, .inl (fun _ => 0))), (q21, .inl (kI, 300, .inl (fun _ => 0))), (q22, .inl (kI, 300, .inl (fun _ => 0))), (q23, .inl (kI, 300, .inl (fun _ => 0)))] := hD
  refine lv_aload_n hx hb d_m_init_206 rfl (lv_at hl 0 rfl) ?_
  refine lv_sipush (v := 300) hx hb d_m_init_207 (by decide) ?_
  refine rl_newa (atype := .int) (ty := .int) (N' := 300) (a0 := (300, .inl (fun _ => 0))) hx hb (hG _ wd_58) rfl (fun _ h9 => by cases h9) 0 rfl hK hP hD hS hA (fun _ => rfl) (by decide) (by decide) (by decide) (Nat.le_of_ble_eq_true rfl) (Nat.le_of_ble_eq_true rfl) d_m_init_210 (fun q24 H hP hD hS => ?_)
  have hP : va_P D rl_cl [(h, .inr (5, [.int 0, .int 0, .int 0, .ref q0, .ref q1, .ref q2, .ref q3, .ref q4, .ref q5, .int 0, .ref q6, .ref q7, .ref q8, .ref q9, .int 0, .ref q10, .ref q11, .ref q12, .ref q13, .ref q14, .int 0, .ref q15, .ref q16, .ref q17, .ref q18, .ref q19, .ref q20, .ref q21, .ref q22, .ref q23, .null, .null, .int 0])), (q0, .inl (kI, 50, .inl (fun _ => 0))), (q1, .inl (kZ, 50, .inl (fun _ => 0))), (q2, .inl (kI, 50, .inl (fun _ => 0))), (q3, .inl (kI, 50, .inl (fun _ => 0))), (q4, .inl (kI, 100, .inl (fun _ => 0))), (q5, .inl (kZ, 1000, .inl (fun _ => 0))), (q6, .inl (kI, 100, .inl (fun _ => 0))), (q7, .inl (kI, 100, .inl (fun _ => 0))), (q8, .inl (kI, 100, .inl (fun _ => 0))), (q9, .inl (kI, 100, .inl (fun _ => 0))), (q10, .inl (kI, 50, .inl (fun _ => 0))), (q11, .inl (kI, 50, .inl (fun _ => 0))), (q12, .inl (kI, 50, .inl (fun _ => 0))), (q13, .inl (kI, 50, .inl (fun _ => 0))), (q14, .inl (kI, 50, .inl (fun _ => 0))), (q15, .inl (kI, 300, .inl (fun _ => 0))), (q16, .inl (kI, 300, .inl (fun _ => 0))), (q17, .inl (kI, 300, .inl (fun _ => 0))), (q18, .inl (kI, 300, .inl (fun _ => 0))), (q19, .inl (kI, 300, .inl (fun _ => 0))), (q20, .inl (kI, 300, .inl (fun _ => 0))), (q21, .inl (kI, 300, .inl (fun _ => 0))), (q22, .inl (kI, 300, .inl (fun _ => 0))), (q23, .inl (kI, 300, .inl (fun _ => 0))), (q24, .inl (kI, 300, .inl (fun _ => 0)))] H := hP
  have hD : va_D A [(h, .inr (5, [.int 0, .int 0, .int 0, .ref q0, .ref q1, .ref q2, .ref q3, .ref q4, .ref q5, .int 0, .ref q6, .ref q7, .ref q8, .ref q9, .int 0, .ref q10, .ref q11, .ref q12, .ref q13, .ref q14, .int 0, .ref q15, .ref q16, .ref q17, .ref q18, .ref q19, .ref q20, .ref q21, .ref q22, .ref q23, .null, .null, .int 0])), (q0, .inl (kI, 50, .inl (fun _ => 0))), (q1, .inl (kZ, 50, .inl (fun _ => 0))), (q2, .inl (kI, 50, .inl (fun _ => 0))), (q3, .inl (kI, 50, .inl (fun _ => 0))), (q4, .inl (kI, 100, .inl (fun _ => 0))), (q5, .inl (kZ, 1000, .inl (fun _ => 0))), (q6, .inl (kI, 100, .inl (fun _ => 0))), (q7, .inl (kI, 100, .inl (fun _ => 0))), (q8, .inl (kI, 100, .inl (fun _ => 0))), (q9, .inl (kI, 100, .inl (fun _ => 0))), (q10, .inl (kI, 50, .inl (fun _ => 0))), (q11, .inl (kI, 50, .inl (fun _ => 0))), (q12, .inl (kI, 50, .inl (fun _ => 0))), (q13, .inl (kI, 50, .inl (fun _ => 0))), (q14, .inl (kI, 50, .inl (fun _ => 0))), (q15, .inl (kI, 300, .inl (fun _ => 0))), (q16, .inl (kI, 300, .inl (fun _ => 0))), (q17, .inl (kI, 300, .inl (fun _ => 0))), (q18, .inl (kI, 300, .inl (fun _ => 0))), (q19, .inl (kI, 300, .inl (fun _ => 0))), (q20, .inl (kI, 300, .inl (fun _ => 0))), (q21, .inl (kI, 300, .inl (fun _ => 0))), (q22, .inl (kI, 300, .inl (fun _ => 0))), (q23, .inl (kI, 300, .inl (fun _ => 0))), (q24, .inl (kI, 300, .inl (fun _ => 0)))] := hD
  refine va_putF (D := D) (ci := 5) (v := .ref q24) (ty := fy_m 30) (C := "RightsLimitModel") (T := fT_m) (N := 33) hx hb hG fi_m fy_m fo_m fn_m hown hK hP hD hS 0 rfl rfl 30 (by decide) (hG _ wd_513) (fun _ h9 => h9) rfl hnm rfl (fo_m 30 (by decide)) rfl rfl (Nat.le_of_ble_eq_true rfl) d_m_init_212 (fun H locs hP hD hS => ?_)
  have hP : va_P D rl_cl [(h, .inr (5, [.int 0, .int 0, .int 0, .ref q0, .ref q1, .ref q2, .ref q3, .ref q4, .ref q5, .int 0, .ref q6, .ref q7, .ref q8, .ref q9, .int 0, .ref q10, .ref q11, .ref q12, .ref q13, .ref q14, .int 0, .ref q15, .ref q16, .ref q17, .ref q18, .ref q19, .ref q20, .ref q21, .ref q22, .ref q23, .ref q24, .null, .int 0])), (q0, .inl (kI, 50, .inl (fun _ => 0))), (q1, .inl (kZ, 50, .inl (fun _ => 0))), (q2, .inl (kI, 50, .inl (fun _ => 0))), (q3, .inl (kI, 50, .inl (fun _ => 0))), (q4, .inl (kI, 100, .inl (fun _ => 0))), (q5, .inl (kZ, 1000, .inl (fun _ => 0))), (q6, .inl (kI, 100, .inl (fun _ => 0))), (q7, .inl (kI, 100, .inl (fun _ => 0))), (q8, .inl (kI, 100, .inl (fun _ => 0))), (q9, .inl (kI, 100, .inl (fun _ => 0))), (q10, .inl (kI, 50, .inl (fun _ => 0))), (q11, .inl (kI, 50, .inl (fun _ => 0))), (q12, .inl (kI, 50, .inl (fun _ => 0))), (q13, .inl (kI, 50, .inl (fun _ => 0))), (q14, .inl (kI, 50, .inl (fun _ => 0))), (q15, .inl (kI, 300, .inl (fun _ => 0))), (q16, .inl (kI, 300, .inl (fun _ => 0))), (q17, .inl (kI, 300, .inl (fun _ => 0))), (q18, .inl (kI, 300, .inl (fun _ => 0))), (q19, .inl (kI, 300, .inl (fun _ => 0))), (q20, .inl (kI, 300, .inl (fun _ => 0))), (q21, .inl (kI, 300, .inl (fun _ => 0))), (q22, .inl (kI, 300, .inl (fun _ => 0))), (q23, .inl (kI, 300, .inl (fun _ => 0))), (q24, .inl (kI, 300, .inl (fun _ => 0)))] H := hP
  have hD : va_D A [(h, .inr (5, [.int 0, .int 0, .int 0, .ref q0, .ref q1, .ref q2, .ref q3, .ref q4, .ref q5, .int 0, .ref q6, .ref q7, .ref q8, .ref q9, .int 0, .ref q10, .ref q11, .ref q12, .ref q13, .ref q14, .int 0, .ref q15, .ref q16, .ref q17, .ref q18, .ref q19, .ref q20, .ref q21, .ref q22, .ref q23, .ref q24, .null, .int 0])), (q0, .inl (kI, 50, .inl (fun _ => 0))), (q1, .inl (kZ, 50, .inl (fun _ => 0))), (q2, .inl (kI, 50, .inl (fun _ => 0))), (q3, .inl (kI, 50, .inl (fun _ => 0))), (q4, .inl (kI, 100, .inl (fun _ => 0))), (q5, .inl (kZ, 1000, .inl (fun _ => 0))), (q6, .inl (kI, 100, .inl (fun _ => 0))), (q7, .inl (kI, 100, .inl (fun _ => 0))), (q8, .inl (kI, 100, .inl (fun _ => 0))), (q9, .inl (kI, 100, .inl (fun _ => 0))), (q10, .inl (kI, 50, .inl (fun _ => 0))), (q11, .inl (kI, 50, .inl (fun _ => 0))), (q12, .inl (kI, 50, .inl (fun _ => 0))), (q13, .inl (kI, 50, .inl (fun _ => 0))), (q14, .inl (kI, 50, .inl (fun _ => 0))), (q15, .inl (kI, 300, .inl (fun _ => 0))), (q16, .inl (kI, 300, .inl (fun _ => 0))), (q17, .inl (kI, 300, .inl (fun _ => 0))), (q18, .inl (kI, 300, .inl (fun _ => 0))), (q19, .inl (kI, 300, .inl (fun _ => 0))), (q20, .inl (kI, 300, .inl (fun _ => 0))), (q21, .inl (kI, 300, .inl (fun _ => 0))), (q22, .inl (kI, 300, .inl (fun _ => 0))), (q23, .inl (kI, 300, .inl (fun _ => 0))), (q24, .inl (kI, 300, .inl (fun _ => 0)))] := hD
  refine lv_aload_n hx hb d_m_init_215 rfl (lv_at hl 0 rfl) ?_
  refine lv_sipush (v := 300) hx hb d_m_init_216 (by decide) ?_
  refine rl_newa (atype := .int) (ty := .int) (N' := 300) (a0 := (300, .inl (fun _ => 0))) hx hb (hG _ wd_58) rfl (fun _ h9 => by cases h9) 0 rfl hK hP hD hS hA (fun _ => rfl) (by decide) (by decide) (by decide) (Nat.le_of_ble_eq_true rfl) (Nat.le_of_ble_eq_true rfl) d_m_init_219 (fun q25 H hP hD hS => ?_)
  have hP : va_P D rl_cl [(h, .inr (5, [.int 0, .int 0, .int 0, .ref q0, .ref q1, .ref q2, .ref q3, .ref q4, .ref q5, .int 0, .ref q6, .ref q7, .ref q8, .ref q9, .int 0, .ref q10, .ref q11, .ref q12, .ref q13, .ref q14, .int 0, .ref q15, .ref q16, .ref q17, .ref q18, .ref q19, .ref q20, .ref q21, .ref q22, .ref q23, .ref q24, .null, .int 0])), (q0, .inl (kI, 50, .inl (fun _ => 0))), (q1, .inl (kZ, 50, .inl (fun _ => 0))), (q2, .inl (kI, 50, .inl (fun _ => 0))), (q3, .inl (kI, 50, .inl (fun _ => 0))), (q4, .inl (kI, 100, .inl (fun _ => 0))), (q5, .inl (kZ, 1000, .inl (fun _ => 0))), (q6, .inl (kI, 100, .inl (fun _ => 0))), (q7, .inl (kI, 100, .inl (fun _ => 0))), (q8, .inl (kI, 100, .inl (fun _ => 0))), (q9, .inl (kI, 100, .inl (fun _ => 0))), (q10, .inl (kI, 50, .inl (fun _ => 0))), (q11, .inl (kI, 50, .inl (fun _ => 0))), (q12, .inl (kI, 50, .inl (fun _ => 0))), (q13, .inl (kI, 50, .inl (fun _ => 0))), (q14, .inl (kI, 50, .inl (fun _ => 0))), (q15, .inl (kI, 300, .inl (fun _ => 0))), (q16, .inl (kI, 300, .inl (fun _ => 0))), (q17, .inl (kI, 300, .inl (fun _ => 0))), (q18, .inl (kI, 300, .inl (fun _ => 0))), (q19, .inl (kI, 300, .inl (fun _ => 0))), (q20, .inl (kI, 300, .inl (fun _ => 0))), (q21, .inl (kI, 300, .inl (fun _ => 0))), (q22, .inl (kI, 300, .inl (fun _ => 0))), (q23, .inl (kI, 300, .inl (fun _ => 0))), (q24, .inl (kI, 300, .inl (fun _ => 0))), (q25, .inl (kI, 300, .inl (fun _ => 0)))] H := hP
  have hD : va_D A [(h, .inr (5, [.int 0, .int 0, .int 0, .ref q0, .ref q1, .ref q2, .ref q3, .ref q4, .ref q5, .int 0, .ref q6, .ref q7, .ref q8, .ref q9, .int 0, .ref q10, .ref q11, .ref q12, .ref q13, .ref q14, .int 0, .ref q15, .ref q16, .ref q17, .ref q18, .ref q19, .ref q20, .ref q21, .ref q22, .ref q23, .ref q24, .null, .int 0])), (q0, .inl (kI, 50, .inl (fun _ => 0))), (q1, .inl (kZ, 50, .inl (fun _ => 0))), (q2, .inl (kI, 50, .inl (fun _ => 0))), (q3, .inl (kI, 50, .inl (fun _ => 0))), (q4, .inl (kI, 100, .inl (fun _ => 0))), (q5, .inl (kZ, 1000, .inl (fun _ => 0))), (q6, .inl (kI, 100, .inl (fun _ => 0))), (q7, .inl (kI, 100, .inl (fun _ => 0))), (q8, .inl (kI, 100, .inl (fun _ => 0))), (q9, .inl (kI, 100, .inl (fun _ => 0))), (q10, .inl (kI, 50, .inl (fun _ => 0))), (q11, .inl (kI, 50, .inl (fun _ => 0))), (q12, .inl (kI, 50, .inl (fun _ => 0))), (q13, .inl (kI, 50, .inl (fun _ => 0))), (q14, .inl (kI, 50, .inl (fun _ => 0))), (q15, .inl (kI, 300, .inl (fun _ => 0))), (q16, .inl (kI, 300, .inl (fun _ => 0))), (q17, .inl (kI, 300, .inl (fun _ => 0))), (q18, .inl (kI, 300, .inl (fun _ => 0))), (q19, .inl (kI, 300, .inl (fun _ => 0))), (q20, .inl (kI, 300, .inl (fun _ => 0))), (q21, .inl (kI, 300, .inl (fun _ => 0))), (q22, .inl (kI, 300, .inl (fun _ => 0))), (q23, .inl (kI, 300, .inl (fun _ => 0))), (q24, .inl (kI, 300, .inl (fun _ => 0))), (q25, .inl (kI, 300, .inl (fun _ => 0)))] := hD
  refine va_putF (D := D) (ci := 5) (v := .ref q25) (ty := fy_m 31) (C := "RightsLimitModel") (T := fT_m) (N := 33) hx hb hG fi_m fy_m fo_m fn_m hown hK hP hD hS 0 rfl rfl 31 (by decide) (hG _ wd_514) (fun _ h9 => h9) rfl hnm rfl (fo_m 31 (by decide)) rfl rfl (Nat.le_of_ble_eq_true rfl) d_m_init_221 (fun H locs hP hD hS => ?_)
  have hP : va_P D rl_cl [(h, .inr (5, [.int 0, .int 0, .int 0, .ref q0, .ref q1, .ref q2, .ref q3, .ref q4, .ref q5, .int 0, .ref q6, .ref q7, .ref q8, .ref q9, .int 0, .ref q10, .ref q11, .ref q12, .ref q13, .ref q14, .int 0, .ref q15, .ref q16, .ref q17, .ref q18, .ref q19, .ref q20, .ref q21, .ref q22, .ref q23, .ref q24, .ref q25, .int 0])), (q0, .inl (kI, 50, .inl (fun _ => 0))), (q1, .inl (kZ, 50, .inl (fun _ => 0))), (q2, .inl (kI, 50, .inl (fun _ => 0))), (q3, .inl (kI, 50, .inl (fun _ => 0))), (q4, .inl (kI, 100, .inl (fun _ => 0))), (q5, .inl (kZ, 1000, .inl (fun _ => 0))), (q6, .inl (kI, 100, .inl (fun _ => 0))), (q7, .inl (kI, 100, .inl (fun _ => 0))), (q8, .inl (kI, 100, .inl (fun _ => 0))), (q9, .inl (kI, 100, .inl (fun _ => 0))), (q10, .inl (kI, 50, .inl (fun _ => 0))), (q11, .inl (kI, 50, .inl (fun _ => 0))), (q12, .inl (kI, 50, .inl (fun _ => 0))), (q13, .inl (kI, 50, .inl (fun _ => 0))), (q14, .inl (kI, 50, .inl (fun _ => 0))), (q15, .inl (kI, 300, .inl (fun _ => 0))), (q16, .inl (kI, 300, .inl (fun _ => 0))), (q17, .inl (kI, 300, .inl (fun _ => 0))), (q18, .inl (kI, 300, .inl (fun _ => 0))), (q19, .inl (kI, 300, .inl (fun _ => 0))), (q20, .inl (kI, 300, .inl (fun _ => 0))), (q21, .inl (kI, 300, .inl (fun _ => 0))), (q22, .inl (kI, 300, .inl (fun _ => 0))), (q23, .inl (kI, 300, .inl (fun _ => 0))), (q24, .inl (kI, 300, .inl (fun _ => 0))), (q25, .inl (kI, 300, .inl (fun _ => 0)))] H := hP
  have hD : va_D A [(h, .inr (5, [.int 0, .int 0, .int 0, .ref q0, .ref q1, .ref q2, .ref q3, .ref q4, .ref q5, .int 0, .ref q6, .ref q7, .ref q8, .ref q9, .int 0, .ref q10, .ref q11, .ref q12, .ref q13, .ref q14, .int 0, .ref q15, .ref q16, .ref q17, .ref q18, .ref q19, .ref q20, .ref q21, .ref q22, .ref q23, .ref q24, .ref q25, .int 0])), (q0, .inl (kI, 50, .inl (fun _ => 0))), (q1, .inl (kZ, 50, .inl (fun _ => 0))), (q2, .inl (kI, 50, .inl (fun _ => 0))), (q3, .inl (kI, 50, .inl (fun _ => 0))), (q4, .inl (kI, 100, .inl (fun _ => 0))), (q5, .inl (kZ, 1000, .inl (fun _ => 0))), (q6, .inl (kI, 100, .inl (fun _ => 0))), (q7, .inl (kI, 100, .inl (fun _ => 0))), (q8, .inl (kI, 100, .inl (fun _ => 0))), (q9, .inl (kI, 100, .inl (fun _ => 0))), (q10, .inl (kI, 50, .inl (fun _ => 0))), (q11, .inl (kI, 50, .inl (fun _ => 0))), (q12, .inl (kI, 50, .inl (fun _ => 0))), (q13, .inl (kI, 50, .inl (fun _ => 0))), (q14, .inl (kI, 50, .inl (fun _ => 0))), (q15, .inl (kI, 300, .inl (fun _ => 0))), (q16, .inl (kI, 300, .inl (fun _ => 0))), (q17, .inl (kI, 300, .inl (fun _ => 0))), (q18, .inl (kI, 300, .inl (fun _ => 0))), (q19, .inl (kI, 300, .inl (fun _ => 0))), (q20, .inl (kI, 300, .inl (fun _ => 0))), (q21, .inl (kI, 300, .inl (fun _ => 0))), (q22, .inl (kI, 300, .inl (fun _ => 0))), (q23, .inl (kI, 300, .inl (fun _ => 0))), (q24, .inl (kI, 300, .inl (fun _ => 0))), (q25, .inl (kI, 300, .inl (fun _ => 0)))] := hD
  refine lv_aload_n hx hb d_m_init_224 rfl (lv_at hl 0 rfl) ?_
  refine lv_iconst (v := (-1)) hx hb d_m_init_225 (by decide) ?_
  refine va_put (D := D) (ci := 5) (v := .int (-1)) (ty := fy_m 32) (C := "RightsLimitModel") (T := fT_m) (N := 33) hx hb hG fi_m fy_m fo_m fn_m hown hK hP hD hS 0 rfl rfl 32 (by decide) (hG _ wd_515) (fun _ h9 => h9) rfl (fo_m 32 (by decide)) rfl rfl (Nat.le_of_ble_eq_true rfl) d_m_init_226 (fun H locs hP hD hS => ?_)
  have hP : va_P D rl_cl [(h, .inr (5, [.int 0, .int 0, .int 0, .ref q0, .ref q1, .ref q2, .ref q3, .ref q4, .ref q5, .int 0, .ref q6, .ref q7, .ref q8, .ref q9, .int 0, .ref q10, .ref q11, .ref q12, .ref q13, .ref q14, .int 0, .ref q15, .ref q16, .ref q17, .ref q18, .ref q19, .ref q20, .ref q21, .ref q22, .ref q23, .ref q24, .ref q25, .int (-1)])), (q0, .inl (kI, 50, .inl (fun _ => 0))), (q1, .inl (kZ, 50, .inl (fun _ => 0))), (q2, .inl (kI, 50, .inl (fun _ => 0))), (q3, .inl (kI, 50, .inl (fun _ => 0))), (q4, .inl (kI, 100, .inl (fun _ => 0))), (q5, .inl (kZ, 1000, .inl (fun _ => 0))), (q6, .inl (kI, 100, .inl (fun _ => 0))), (q7, .inl (kI, 100, .inl (fun _ => 0))), (q8, .inl (kI, 100, .inl (fun _ => 0))), (q9, .inl (kI, 100, .inl (fun _ => 0))), (q10, .inl (kI, 50, .inl (fun _ => 0))), (q11, .inl (kI, 50, .inl (fun _ => 0))), (q12, .inl (kI, 50, .inl (fun _ => 0))), (q13, .inl (kI, 50, .inl (fun _ => 0))), (q14, .inl (kI, 50, .inl (fun _ => 0))), (q15, .inl (kI, 300, .inl (fun _ => 0))), (q16, .inl (kI, 300, .inl (fun _ => 0))), (q17, .inl (kI, 300, .inl (fun _ => 0))), (q18, .inl (kI, 300, .inl (fun _ => 0))), (q19, .inl (kI, 300, .inl (fun _ => 0))), (q20, .inl (kI, 300, .inl (fun _ => 0))), (q21, .inl (kI, 300, .inl (fun _ => 0))), (q22, .inl (kI, 300, .inl (fun _ => 0))), (q23, .inl (kI, 300, .inl (fun _ => 0))), (q24, .inl (kI, 300, .inl (fun _ => 0))), (q25, .inl (kI, 300, .inl (fun _ => 0)))] H := hP
  have hD : va_D A [(h, .inr (5, [.int 0, .int 0, .int 0, .ref q0, .ref q1, .ref q2, .ref q3, .ref q4, .ref q5, .int 0, .ref q6, .ref q7, .ref q8, .ref q9, .int 0, .ref q10, .ref q11, .ref q12, .ref q13, .ref q14, .int 0, .ref q15, .ref q16, .ref q17, .ref q18, .ref q19, .ref q20, .ref q21, .ref q22, .ref q23, .ref q24, .ref q25, .int (-1)])), (q0, .inl (kI, 50, .inl (fun _ => 0))), (q1, .inl (kZ, 50, .inl (fun _ => 0))), (q2, .inl (kI, 50, .inl (fun _ => 0))), (q3, .inl (kI, 50, .inl (fun _ => 0))), (q4, .inl (kI, 100, .inl (fun _ => 0))), (q5, .inl (kZ, 1000, .inl (fun _ => 0))), (q6, .inl (kI, 100, .inl (fun _ => 0))), (q7, .inl (kI, 100, .inl (fun _ => 0))), (q8, .inl (kI, 100, .inl (fun _ => 0))), (q9, .inl (kI, 100, .inl (fun _ => 0))), (q10, .inl (kI, 50, .inl (fun _ => 0))), (q11, .inl (kI, 50, .inl (fun _ => 0))), (q12, .inl (kI, 50, .inl (fun _ => 0))), (q13, .inl (kI, 50, .inl (fun _ => 0))), (q14, .inl (kI, 50, .inl (fun _ => 0))), (q15, .inl (kI, 300, .inl (fun _ => 0))), (q16, .inl (kI, 300, .inl (fun _ => 0))), (q17, .inl (kI, 300, .inl (fun _ => 0))), (q18, .inl (kI, 300, .inl (fun _ => 0))), (q19, .inl (kI, 300, .inl (fun _ => 0))), (q20, .inl (kI, 300, .inl (fun _ => 0))), (q21, .inl (kI, 300, .inl (fun _ => 0))), (q22, .inl (kI, 300, .inl (fun _ => 0))), (q23, .inl (kI, 300, .inl (fun _ => 0))), (q24, .inl (kI, 300, .inl (fun _ => 0))), (q25, .inl (kI, 300, .inl (fun _ => 0)))] := hD
  have hP9 := hP.sub (ws' := rm_w (fun k => match k with | 0 => h | 1 => q0 | 2 => q1 | 3 => q2 | 4 => q3 | 5 => q4 | 6 => q5 | 7 => q6 | 8 => q7 | 9 => q8 | 10 => q9 | 11 => q10 | 12 => q11 | 13 => q12 | 14 => q13 | 15 => q14 | 16 => q15 | 17 => q16 | 18 => q17 | 19 => q18 | 20 => q19 | 21 => q20 | 22 => q21 | 23 => q22 | 24 => q23 | 25 => q24 | 26 => q25 | _ => 0) kI kZ rm_F0) [0, 1, 2, 3, 4, 5, 6, 7, 8, 9, 10, 11, 12, 13, 14, 15, 16, 17, 18, 19, 20, 21, 22, 23, 24, 25, 26] rfl
  have hD9 := hD.sub (ws' := rm_w (fun k => match k with | 0 => h | 1 => q0 | 2 => q1 | 3 => q2 | 4 => q3 | 5 => q4 | 6 => q5 | 7 => q6 | 8 => q7 | 9 => q8 | 10 => q9 | 11 => q10 | 12 => q11 | 13 => q12 | 14 => q13 | 15 => q14 | 16 => q15 | 17 => q16 | 18 => q17 | 19 => q18 | 20 => q19 | 21 => q20 | 22 => q21 | 23 => q22 | 24 => q23 | 25 => q24 | 26 => q25 | _ => 0) kI kZ rm_F0) [0, 1, 2, 3, 4, 5, 6, 7, 8, 9, 10, 11, 12, 13, 14, 15, 16, 17, 18, 19, 20, 21, 22, 23, 24, 25, 26] (by decide) rfl
  exact W.vret hx hb hr (fun t ht hW => ⟨⟨(fun k => match k with | 0 => h | 1 => q0 | 2 => q1 | 3 => q2 | 4 => q3 | 5 => q4 | 6 => q5 | 7 => q6 | 8 => q7 | 9 => q8 | 10 => q9 | 11 => q10 | 12 => q11 | 13 => q12 | 14 => q13 | 15 => q14 | 16 => q15 | 17 => q16 | 18 => q17 | 19 => q18 | 20 => q19 | 21 => q20 | 22 => q21 | 23 => q22 | 24 => q23 | 25 => q24 | 26 => q25 | _ => 0), rfl, rfl, ⟨by rw [ht]; exact hP9, hD9⟩⟩, hS.F ht⟩) hS.2.2 d_m_init_229
end
section
theorem rl_ats_in : ∀ w ∈ rl_atoms "RightsLimit" 135, w ∈ rl_G ∨ w ∈ rl_Zw ∨ w ∈ rl_Zd := by decide +kernel
theorem rl_ats {s : State} {args : Array Value} (hG : ∀ x ∈ rl_G, x.before args s = true) (hZ : rl_Z s) : ∀ w ∈ rl_atoms "RightsLimit" 135, w.before args s = true := by
  intro w hw
  rcases rl_ats_in w hw with h | h | h
  · exact hG w h
  · exact hZ.1 w h args
  · have h9 := hZ.2.2 w h
    simp only [rl_Zd, List.mem_cons, List.not_mem_nil, or_false] at h
    rcases h with rfl | rfl | rfl <;> exact va_Nw.use rfl h9
set_option maxHeartbeats 4000000 in
set_option maxRecDepth 100000 in
theorem k_x_request (l : Launch) (D : va_G) (a : Nat → Nat) (kI kZ : ClassId) (jn jw : Int32) (hlt : l.stackTraces = false) (H0 : Heap) : rl_Mt l ⟨"RightsLimit", "request", "(II)I"⟩ (Cond.code ⟨"RightsLimit", "request", "(II)I"⟩ prog_1_method_15_code 3 (some .int) :: rl_G) { frames := 6, cells := 1, slots := 6, locals := 82 } (va_Pc [.ref (a 0), .int jn, .int jw] (rl_BT D rl_cl (rl_tys kI kZ) [] (rl_w a kI kZ rl_F0) H0)) rl_NSE (fun (r : Int32) => False) 1 6 := by
  refine rl_mett (cc := prog_1_method_15_code) (maxL := 3) (ret := (some .int)) (by decide) rfl (Nat.le_of_ble_eq_true rfl) ?_
  intro p e s m below meth c ls hx hb hr hml hown hts hlocks hP hK hS hN hZ hout hl
  have hown : s.vm.findClass "RightsLimit" = some m.cls := hown
  have hG : ∀ x ∈ rl_G, x.before _ s = true := fun x h => hts x (List.mem_cons_of_mem _ h)
  have hl : lv_has ls 3 [(0, .ref (a 0)), (1, .int jn), (2, .int jw)] := hl
  refine lv_aload_n hx hb d_x_request_0 rfl (lv_at hl 0 rfl) ?_
  refine va_get (D := D) (ci := 0) (v := .ref (a 4)) (C := "RightsLimit") (T := fT_x) (N := 8) hx hb hG fi_x hown hK hP 0 rfl rfl 3 (by decide) (hG _ wd_171) (fun _ h9 => h9) rfl d_x_request_1 ?_
  refine lv_iload_n hx hb d_x_request_4 rfl (lv_at hl 1 rfl) ?_
  have hpre := rl_BR.pre (av := .ref (a 4) :: [.int jn]) rl_nw0 hP hK hN
  refine rl_callr hS (va_runV (As := [.int jn]) (rest := []) ⟨hx, hb, hml, hown, hG⟩ (k_q_has l D a kI kZ jn _) (cwV 1 hG (rl_gV wd_331 wd_332 wd_333 wd_18 wd_334) rfl rfl rfl (by decide +kernel) ⟨Nat.le_of_ble_eq_true rfl, Nat.le_of_ble_eq_true rfl⟩) ⟨hpre.1, (va_recv hK hP (ci := 4) (q0 := 4) rfl rfl), hpre.2⟩ rfl rfl hl.1 rfl (lv_room (Nat.le_of_ble_eq_true rfl)) d_x_request_5 ⟨Nat.le_of_ble_eq_true rfl, Nat.le_of_ble_eq_true rfl⟩) (fun r locs hw hS => ?_)
  obtain rfl := hw
  refine lv_if_ne (tgt := 21) hx hb d_x_request_8 (by decide) (fun c9 => absurd c9 (by decide)) (fun _ => ?_)
  exact rl_throw (own := "RightsLimit") (text := "no such request") (ik := 131) (is := 133) (ic := 135) hx hb hlt hown (hG _ wd_398) (hG _ wd_23) (rl_str hZ (by decide)) (rl_ats hG hZ) hS (hl.1.trans hml.symm) d_x_request_11 d_x_request_14 d_x_request_15 d_x_request_17 d_x_request_20 hout (Nat.le_of_ble_eq_true rfl) (Nat.le_of_ble_eq_true rfl) (Nat.le_of_ble_eq_true rfl) (Nat.le_of_ble_eq_true rfl) hlocks
set_option maxHeartbeats 4000000 in
set_option maxRecDepth 100000 in
theorem k_x_past (l : Launch) (D : va_G) (a : Nat → Nat) (kI kZ : ClassId) (jt jn : Int32) (hlt : l.stackTraces = false) (H0 : Heap) : rl_Mt l ⟨"RightsLimit", "past", "(II)I"⟩ (Cond.code ⟨"RightsLimit", "past", "(II)I"⟩ prog_1_method_18_code 4 (some .int) :: rl_G) { frames := 6, cells := 1, slots := 6, locals := 82 } (va_Pc [.ref (a 0), .int jt, .int jn] (rl_BT D rl_cl (rl_tys kI kZ) [] (rl_w a kI kZ rl_F0) H0)) rl_NSE (fun (r : Int32) => False) 1 6 := by
  refine rl_mett (cc := prog_1_method_18_code) (maxL := 4) (ret := (some .int)) (by decide) rfl (Nat.le_of_ble_eq_true rfl) ?_
  intro p e s m below meth c ls hx hb hr hml hown hts hlocks hP hK hS hN hZ hout hl
  have hown : s.vm.findClass "RightsLimit" = some m.cls := hown
  have hG : ∀ x ∈ rl_G, x.before _ s = true := fun x h => hts x (List.mem_cons_of_mem _ h)
  have hl : lv_has ls 4 [(0, .ref (a 0)), (1, .int jt), (2, .int jn)] := hl
  refine lv_aload_n hx hb d_x_past_0 rfl (lv_at hl 0 rfl) ?_
  refine va_get (D := D) (ci := 0) (v := .ref (a 4)) (C := "RightsLimit") (T := fT_x) (N := 8) hx hb hG fi_x hown hK hP 0 rfl rfl 3 (by decide) (hG _ wd_171) (fun _ h9 => h9) rfl d_x_past_1 ?_
  refine lv_iload_n hx hb d_x_past_4 rfl (lv_at hl 1 rfl) ?_
  refine lv_iload_n hx hb d_x_past_5 rfl (lv_at hl 2 rfl) ?_
  have hpre := rl_BR.pre (av := .ref (a 4) :: [.int jt, .int jn]) rl_nw0 hP hK hN
  refine rl_callr hS (va_runV (As := [.int jt, .int jn]) (rest := []) ⟨hx, hb, hml, hown, hG⟩ (k_q_endedAt l D a kI kZ jt jn _) (cwV 2 hG (rl_gV wd_472 wd_473 wd_474 wd_18 wd_475) rfl rfl rfl (by decide +kernel) ⟨Nat.le_of_ble_eq_true rfl, Nat.le_of_ble_eq_true rfl⟩) ⟨hpre.1, (va_recv hK hP (ci := 4) (q0 := 4) rfl rfl), hpre.2⟩ rfl rfl hl.1 rfl (lv_room (Nat.le_of_ble_eq_true rfl)) d_x_past_6 ⟨Nat.le_of_ble_eq_true rfl, Nat.le_of_ble_eq_true rfl⟩) (fun r locs hw hS => ?_)
  obtain rfl := hw
  refine lv_istore_n (lv' := [(3, .int (-1)), (0, .ref (a 0)), (1, .int jt), (2, .int jn)]) hx hb d_x_past_9 rfl hl (by decide) rfl (fun ls hl => ?_)
  refine lv_iload_n hx hb d_x_past_10 rfl (lv_at hl 0 rfl) ?_
  refine lv_iconst (v := (-1)) hx hb d_x_past_11 (by decide) ?_
  refine lv_icmp_ne (tgt := 25) hx hb d_x_past_12 (by decide) (fun c9 => absurd c9 (by decide)) (fun _ => ?_)
  exact rl_throw (own := "RightsLimit") (text := "no such copy") (ik := 131) (is := 190) (ic := 135) hx hb hlt hown (hG _ wd_398) (hG _ wd_23) (rl_str hZ (by decide)) (rl_ats hG hZ) hS (hl.1.trans hml.symm) d_x_past_15 d_x_past_18 d_x_past_19 d_x_past_21 d_x_past_24 hout (Nat.le_of_ble_eq_true rfl) (Nat.le_of_ble_eq_true rfl) (Nat.le_of_ble_eq_true rfl) (Nat.le_of_ble_eq_true rfl) hlocks
end
section
abbrev rl_t3 (kI kZ kL : ClassId) : List (ClassId × FieldType) := [(kI, .int), (kZ, .boolean), (kL, .long)]
abbrev rl_O (kL : ClassId) (q : Nat) (g : Nat → Int64) : va_W := [(q, .inl (kL, 1, .inr (.inl g)))]
def rl_BH (D : va_G) (a : Nat → Nat) (kI kZ kL : ClassId) (q : Nat) (g : Nat → Int64) (sz : Nat) (U : State) : Prop := rl_B D rl_cl (rl_t3 kI kZ kL) [] (rl_w a kI kZ rl_F0 ++ rl_O kL q g) sz U ∧ rl_Z U ∧ va_Nw (.castable rl_NSE rl_NSE) U
theorem rl_BH.pre {D : va_G} {a : Nat → Nat} {kI kZ kL : ClassId} {q : Nat} {g : Nat → Int64} {s : State} {H : Heap} {A : Nat → Prop} {av : List Value} (hP : va_P D rl_cl (rl_w a kI kZ rl_F0 ++ rl_O kL q g) H) (hK : va_K D rl_cl (rl_t3 kI kZ kL) s) (hD : va_D A (rl_w a kI kZ rl_F0 ++ rl_O kL q g)) (hh : ∀ (q : Nat) (cell : Cell), s.heap[q]? = some cell → H[q]? = some cell) (hZ : rl_Z s) (hC : va_Nw (.castable rl_NSE rl_NSE) s) : PreS s H (va_Pc av (rl_BH D a kI kZ kL q g H.size)) av := by
  have h := rl_B.pre (av := av) rl_nw0 hP hK hD rl_N0
  refine ⟨fun b U g mk q => ?_, fun U hU hW => ⟨rfl, (h.2 U hU hW).2, rl_Z.warm hW (fun q cell hq => by rw [hU]; exact hh q cell hq) hZ, va_Nw.warmC hW hC⟩⟩
  obtain ⟨q0, q1, q2, q3⟩ := q
  exact ⟨q0, (h.1 b U g mk ⟨q0, q1⟩).2, rl_Z.calling q2, va_Nw.same (u := U) rfl rfl q3⟩
theorem rl_table {p : Program} {l : Launch} {y : MethodName} {S : Spec} {cc bytes : ByteArray} {maxL maxL' : Nat} {ret ret' : Option FieldType} {e : Env} {s s₁ : State} {m : MethodId} {args : Array Value} {below : List Frame} {meth : Method} {c : Code} {hh : List (Nat × Nat × Nat × Nat)}
    (B : BodyLoose p l y S cc maxL ret e s m args below meth c s₁) (h : (Cond.codeWith y bytes maxL' ret' hh).before args s = true) : c.exceptionTable.toList = tableOf hh := by
  obtain ⟨m9, meth9, c9, hn9, h1, h2, -, -, h6, -⟩ := Cond.codeWith_spec h
  cases Option.some.inj (hn9.symm.trans B.named)
  cases Option.some.inj (h1.symm.trans B.method)
  cases Option.some.inj (h2.symm.trans (Stand.of_body B).code)
  rw [← h6, table_eq]
set_option maxHeartbeats 4000000 in
set_option maxRecDepth 100000 in
theorem k_w_request (l : Launch) (D : va_G) (a : Nat → Nat) (kI kZ kL : ClassId) (q : Nat) (g : Nat → Int64) (j1 j2 : Int32) (hlt : l.stackTraces = false) (sz : Nat) : Met l ⟨"RightsLimitLaw", "request", "(LRightsLimit;II[J)I"⟩ (Cond.codeWith ⟨"RightsLimitLaw", "request", "(LRightsLimit;II[J)I"⟩ method_3_code 5 (some .int) [(0, 10, 13, 13)] :: rl_G) { frames := 7, cells := 1, slots := 6, locals := 104 } (va_Pc [.ref (a 0), .int j1, .int j2, .ref q] (rl_BH D a kI kZ kL q g sz)) (va_Qi (S := Unit) (fun r _ => r = 1) (fun _ t => va_P D rl_cl (rl_w a kI kZ rl_F0 ++ rl_O kL q g) t.heap ∧ va_D (va_A (rl_w a kI kZ rl_F0 ++ rl_O kL q g) sz) (rl_w a kI kZ rl_F0 ++ rl_O kL q g)) (va_A (rl_w a kI kZ rl_F0 ++ rl_O kL q g) sz)) 1 6 (va_A (rl_w a kI kZ rl_F0 ++ rl_O kL q g) sz) := by
  refine va_MetW (cc := method_3_code) (maxL := 5) (ret := (some .int)) (hh := [(0, 10, 13, 13)]) (by decide) rfl ?_
  intro p e s m args below meth c s₁ B hml hv
  obtain ⟨rfl, ⟨hsz, hP, hK, hD0, hN⟩, hZ, hC⟩ := hv
  subst hsz
  have hx := B.exec
  have hb := B.bytes
  have hr := B.returns
  have hts := atoms_spec (ws := Cond.codeWith ⟨"RightsLimitLaw", "request", "(LRightsLimit;II[J)I"⟩ method_3_code 5 (some .int) [(0, 10, 13, 13)] :: rl_G) B.pre
  have hown : s.vm.findClass "RightsLimitLaw" = some m.cls := findClass_of_methodNamed B.named
  have hlocks := B.notSynchronized
  have hG : ∀ x ∈ rl_G, x.before _ s = true := fun x h => hts x (List.mem_cons_of_mem _ h)
  have htab : c.exceptionTable.toList = [⟨0, 10, 13, 13⟩] := rl_table B (hts _ List.mem_cons_self)
  have hD := hD0.self (sz := s.heap.size)
  have hl := lv_entry ([.ref (a 0), .int j1, .int j2, .ref q]) (n := 5) (Nat.le_of_ble_eq_true rfl)
  rw [lg_entry_eq]
  generalize (lg_sl ([.ref (a 0), .int j1, .int j2, .ref q]) ++ List.replicate (5 - (lg_sl ([.ref (a 0), .int j1, .int j2, .ref q])).length) Slot.unset).toArray = ls at hl ⊢
  have hl : lv_has ls 5 [(0, .ref (a 0)), (1, .int j1), (2, .int j2), (3, .ref q)] := hl
  refine lv_aload_n hx hb d_w_request_0 rfl (lv_at hl 3 rfl) ?_
  refine lv_iconst (v := 0) hx hb d_w_request_1 (by decide) ?_
  refine lv_aload_n hx hb d_w_request_2 rfl (lv_at hl 0 rfl) ?_
  refine lv_iload_n hx hb d_w_request_3 rfl (lv_at hl 1 rfl) ?_
  refine lv_iload_n hx hb d_w_request_4 rfl (lv_at hl 2 rfl) ?_
  have hpre := rl_BT.pre (av := .ref (a 0) :: [.int j1, .int j2]) rl_nw0 (rl_P.l hP) (hK.sub (tys' := rl_tys kI kZ) [0, 1] rfl) rl_N0 (fun U hU hW => rl_Z.warm hW (fun q cell h => by rw [hU]; exact h) hZ)
  refine rl_callt (As := [.int j1, .int j2]) (rest := [.int 0, .ref q]) ⟨hx, hb, hml, hown, hG⟩ (k_x_request l D a kI kZ j1 j2 hlt _) (cwV 2 hG (rl_gV wd_394 wd_395 wd_396 wd_14 wd_397) rfl rfl rfl (by decide +kernel) ⟨Nat.le_of_ble_eq_true rfl, Nat.le_of_ble_eq_true rfl⟩) ⟨hpre.1, (va_recv hK hP (ci := 0) (q0 := 0) rfl rfl), hpre.2⟩ rfl hl.1 rfl (lv_room (Nat.le_of_ble_eq_true rfl)) d_w_request_5 ⟨Nat.le_of_ble_eq_true rfl, Nat.le_of_ble_eq_true rfl⟩ htab (by decide) (by decide) (hG _ wd_393) (va_Nw.use rfl hC) (fun r H1 hp _ _ => hp.elim) (fun q9 H1 hold hsz => ?_)
  refine lv_astore (lv' := [(4, .ref q9), (0, .ref (a 0)), (1, .int j1), (2, .int j2), (3, .ref q)]) hx hb d_w_request_13 hl (by decide) rfl (fun ls hl => ?_)
  refine lv_iconst (v := 1) hx hb d_w_request_15 (by decide) ?_
  exact W.iret (v := 1) hx hb hr (fun t ht hW => ⟨⟨1, (), rfl, rfl, ⟨by rw [ht]; exact rl_P.grow hold hP, hD⟩⟩, (rl_S.grow (locs := []) hold hsz va_S.rf).F ht⟩) (fun _ h => by cases h) d_w_request_16
set_option maxHeartbeats 4000000 in
set_option maxRecDepth 100000 in
theorem k_w_past (l : Launch) (D : va_G) (a : Nat → Nat) (kI kZ kL : ClassId) (q : Nat) (g : Nat → Int64) (j1 j2 : Int32) (hlt : l.stackTraces = false) (sz : Nat) : Met l ⟨"RightsLimitLaw", "past", "(LRightsLimit;II[J)I"⟩ (Cond.codeWith ⟨"RightsLimitLaw", "past", "(LRightsLimit;II[J)I"⟩ method_4_code 5 (some .int) [(0, 10, 13, 13)] :: rl_G) { frames := 7, cells := 1, slots := 6, locals := 105 } (va_Pc [.ref (a 0), .int j1, .int j2, .ref q] (rl_BH D a kI kZ kL q g sz)) (va_Qi (S := Unit) (fun r _ => r = 1) (fun _ t => va_P D rl_cl (rl_w a kI kZ rl_F0 ++ rl_O kL q g) t.heap ∧ va_D (va_A (rl_w a kI kZ rl_F0 ++ rl_O kL q g) sz) (rl_w a kI kZ rl_F0 ++ rl_O kL q g)) (va_A (rl_w a kI kZ rl_F0 ++ rl_O kL q g) sz)) 1 6 (va_A (rl_w a kI kZ rl_F0 ++ rl_O kL q g) sz) := by
  refine va_MetW (cc := method_4_code) (maxL := 5) (ret := (some .int)) (hh := [(0, 10, 13, 13)]) (by decide) rfl ?_
  intro p e s m args below meth c s₁ B hml hv
  obtain ⟨rfl, ⟨hsz, hP, hK, hD0, hN⟩, hZ, hC⟩ := hv
  subst hsz
  have hx := B.exec
  have hb := B.bytes
  have hr := B.returns
  have hts := atoms_spec (ws := Cond.codeWith ⟨"RightsLimitLaw", "past", "(LRightsLimit;II[J)I"⟩ method_4_code 5 (some .int) [(0, 10, 13, 13)] :: rl_G) B.pre
  have hown : s.vm.findClass "RightsLimitLaw" = some m.cls := findClass_of_methodNamed B.named
  have hlocks := B.notSynchronized
  have hG : ∀ x ∈ rl_G, x.before _ s = true := fun x h => hts x (List.mem_cons_of_mem _ h)
  have htab : c.exceptionTable.toList = [⟨0, 10, 13, 13⟩] := rl_table B (hts _ List.mem_cons_self)
  have hD := hD0.self (sz := s.heap.size)
  have hl := lv_entry ([.ref (a 0), .int j1, .int j2, .ref q]) (n := 5) (Nat.le_of_ble_eq_true rfl)
  rw [lg_entry_eq]
  generalize (lg_sl ([.ref (a 0), .int j1, .int j2, .ref q]) ++ List.replicate (5 - (lg_sl ([.ref (a 0), .int j1, .int j2, .ref q])).length) Slot.unset).toArray = ls at hl ⊢
  have hl : lv_has ls 5 [(0, .ref (a 0)), (1, .int j1), (2, .int j2), (3, .ref q)] := hl
  refine lv_aload_n hx hb d_w_past_0 rfl (lv_at hl 3 rfl) ?_
  refine lv_iconst (v := 0) hx hb d_w_past_1 (by decide) ?_
  refine lv_aload_n hx hb d_w_past_2 rfl (lv_at hl 0 rfl) ?_
  refine lv_iload_n hx hb d_w_past_3 rfl (lv_at hl 1 rfl) ?_
  refine lv_iload_n hx hb d_w_past_4 rfl (lv_at hl 2 rfl) ?_
  have hpre := rl_BT.pre (av := .ref (a 0) :: [.int j1, .int j2]) rl_nw0 (rl_P.l hP) (hK.sub (tys' := rl_tys kI kZ) [0, 1] rfl) rl_N0 (fun U hU hW => rl_Z.warm hW (fun q cell h => by rw [hU]; exact h) hZ)
  refine rl_callt (As := [.int j1, .int j2]) (rest := [.int 0, .ref q]) ⟨hx, hb, hml, hown, hG⟩ (k_x_past l D a kI kZ j1 j2 hlt _) (cwV 2 hG (rl_gV wd_468 wd_469 wd_470 wd_14 wd_471) rfl rfl rfl (by decide +kernel) ⟨Nat.le_of_ble_eq_true rfl, Nat.le_of_ble_eq_true rfl⟩) ⟨hpre.1, (va_recv hK hP (ci := 0) (q0 := 0) rfl rfl), hpre.2⟩ rfl hl.1 rfl (lv_room (Nat.le_of_ble_eq_true rfl)) d_w_past_5 ⟨Nat.le_of_ble_eq_true rfl, Nat.le_of_ble_eq_true rfl⟩ htab (by decide) (by decide) (hG _ wd_393) (va_Nw.use rfl hC) (fun r H1 hp _ _ => hp.elim) (fun q9 H1 hold hsz => ?_)
  refine lv_astore (lv' := [(4, .ref q9), (0, .ref (a 0)), (1, .int j1), (2, .int j2), (3, .ref q)]) hx hb d_w_past_13 hl (by decide) rfl (fun ls hl => ?_)
  refine lv_iconst (v := 1) hx hb d_w_past_15 (by decide) ?_
  exact W.iret (v := 1) hx hb hr (fun t ht hW => ⟨⟨1, (), rfl, rfl, ⟨by rw [ht]; exact rl_P.grow hold hP, hD⟩⟩, (rl_S.grow (locs := []) hold hsz va_S.rf).F ht⟩) (fun _ h => by cases h) d_w_past_16
end
section
set_option maxRecDepth 100000 in
theorem wd_13 : Cond.initialized "RightsLimitLaw" ∈ rl_G := rl_wd 13 rfl rfl
set_option maxRecDepth 100000 in
theorem wd_24 : Cond.classLink "RightsLimitLaw" 8 "RightsLimit" ∈ rl_G := rl_wd 24 rfl rfl
set_option maxRecDepth 100000 in
theorem wd_25 : Cond.instantiable "RightsLimit" 8 ∈ rl_G := rl_wd 25 rfl rfl
set_option maxRecDepth 100000 in
theorem wd_26 : Cond.methodLink "RightsLimitLaw" 18 ⟨"RightsLimit", "<init>", "()V"⟩ ∈ rl_G := rl_wd 26 rfl rfl
set_option maxRecDepth 100000 in
theorem wd_27 : Cond.instanceMethod ⟨"RightsLimit", "<init>", "()V"⟩ ∈ rl_G := rl_wd 27 rfl rfl
set_option maxRecDepth 100000 in
theorem wd_28 : Cond.code ⟨"RightsLimit", "<init>", "()V"⟩ prog_1_method_1_code 1 none ∈ rl_G := rl_wd 28 rfl rfl
set_option maxRecDepth 100000 in
theorem wd_193 : Cond.methodLink "RightsLimitLaw" 22 ⟨"RightsLimit", "title", "(I)I"⟩ ∈ rl_G := rl_wd 193 rfl rfl
set_option maxRecDepth 100000 in
theorem wd_194 : Cond.instanceMethod ⟨"RightsLimit", "title", "(I)I"⟩ ∈ rl_G := rl_wd 194 rfl rfl
set_option maxRecDepth 100000 in
theorem wd_195 : Cond.selects "RightsLimit" ⟨"RightsLimit", "title", "(I)I"⟩ ⟨"RightsLimit", "title", "(I)I"⟩ ∈ rl_G := rl_wd 195 rfl rfl
set_option maxRecDepth 100000 in
theorem wd_196 : Cond.code ⟨"RightsLimit", "title", "(I)I"⟩ prog_1_method_2_code 2 (some .int) ∈ rl_G := rl_wd 196 rfl rfl
set_option maxRecDepth 100000 in
theorem wd_207 : Cond.methodLink "RightsLimitLaw" 27 ⟨"RightsLimit", "open", "(IZ)I"⟩ ∈ rl_G := rl_wd 207 rfl rfl
set_option maxRecDepth 100000 in
theorem wd_208 : Cond.instanceMethod ⟨"RightsLimit", "open", "(IZ)I"⟩ ∈ rl_G := rl_wd 208 rfl rfl
set_option maxRecDepth 100000 in
theorem wd_209 : Cond.selects "RightsLimit" ⟨"RightsLimit", "open", "(IZ)I"⟩ ⟨"RightsLimit", "open", "(IZ)I"⟩ ∈ rl_G := rl_wd 209 rfl rfl
set_option maxRecDepth 100000 in
theorem wd_210 : Cond.code ⟨"RightsLimit", "open", "(IZ)I"⟩ prog_1_method_3_code 3 (some .int) ∈ rl_G := rl_wd 210 rfl rfl
set_option maxRecDepth 100000 in
theorem wd_215 : Cond.methodLink "RightsLimitLaw" 32 ⟨"RightsLimit", "limit", "(IIII)I"⟩ ∈ rl_G := rl_wd 215 rfl rfl
set_option maxRecDepth 100000 in
theorem wd_216 : Cond.instanceMethod ⟨"RightsLimit", "limit", "(IIII)I"⟩ ∈ rl_G := rl_wd 216 rfl rfl
set_option maxRecDepth 100000 in
theorem wd_217 : Cond.selects "RightsLimit" ⟨"RightsLimit", "limit", "(IIII)I"⟩ ⟨"RightsLimit", "limit", "(IIII)I"⟩ ∈ rl_G := rl_wd 217 rfl rfl
set_option maxRecDepth 100000 in
theorem wd_218 : Cond.code ⟨"RightsLimit", "limit", "(IIII)I"⟩ prog_1_method_4_code 5 (some .int) ∈ rl_G := rl_wd 218 rfl rfl
set_option maxRecDepth 100000 in
theorem wd_232 : Cond.methodLink "RightsLimitLaw" 37 ⟨"RightsLimit", "licence", "(IIIII)I"⟩ ∈ rl_G := rl_wd 232 rfl rfl
set_option maxRecDepth 100000 in
theorem wd_233 : Cond.instanceMethod ⟨"RightsLimit", "licence", "(IIIII)I"⟩ ∈ rl_G := rl_wd 233 rfl rfl
set_option maxRecDepth 100000 in
theorem wd_234 : Cond.selects "RightsLimit" ⟨"RightsLimit", "licence", "(IIIII)I"⟩ ⟨"RightsLimit", "licence", "(IIIII)I"⟩ ∈ rl_G := rl_wd 234 rfl rfl
set_option maxRecDepth 100000 in
theorem wd_235 : Cond.code ⟨"RightsLimit", "licence", "(IIIII)I"⟩ prog_1_method_5_code 6 (some .int) ∈ rl_G := rl_wd 235 rfl rfl
set_option maxRecDepth 100000 in
theorem wd_244 : Cond.methodLink "RightsLimitLaw" 42 ⟨"RightsLimit", "fee", "(II)I"⟩ ∈ rl_G := rl_wd 244 rfl rfl
set_option maxRecDepth 100000 in
theorem wd_245 : Cond.instanceMethod ⟨"RightsLimit", "fee", "(II)I"⟩ ∈ rl_G := rl_wd 245 rfl rfl
set_option maxRecDepth 100000 in
theorem wd_246 : Cond.selects "RightsLimit" ⟨"RightsLimit", "fee", "(II)I"⟩ ⟨"RightsLimit", "fee", "(II)I"⟩ ∈ rl_G := rl_wd 246 rfl rfl
set_option maxRecDepth 100000 in
theorem wd_247 : Cond.code ⟨"RightsLimit", "fee", "(II)I"⟩ prog_1_method_6_code 3 (some .int) ∈ rl_G := rl_wd 247 rfl rfl
set_option maxRecDepth 100000 in
theorem wd_248 : Cond.methodLink "RightsLimitLaw" 46 ⟨"RightsLimit", "ask", "(IIIII)I"⟩ ∈ rl_G := rl_wd 248 rfl rfl
set_option maxRecDepth 100000 in
theorem wd_249 : Cond.instanceMethod ⟨"RightsLimit", "ask", "(IIIII)I"⟩ ∈ rl_G := rl_wd 249 rfl rfl
set_option maxRecDepth 100000 in
theorem wd_250 : Cond.selects "RightsLimit" ⟨"RightsLimit", "ask", "(IIIII)I"⟩ ⟨"RightsLimit", "ask", "(IIIII)I"⟩ ∈ rl_G := rl_wd 250 rfl rfl
set_option maxRecDepth 100000 in
theorem wd_251 : Cond.code ⟨"RightsLimit", "ask", "(IIIII)I"⟩ prog_1_method_7_code 7 (some .int) ∈ rl_G := rl_wd 251 rfl rfl
set_option maxRecDepth 100000 in
theorem wd_307 : Cond.methodLink "RightsLimitLaw" 50 ⟨"RightsLimit", "why", "()I"⟩ ∈ rl_G := rl_wd 307 rfl rfl
set_option maxRecDepth 100000 in
theorem wd_308 : Cond.instanceMethod ⟨"RightsLimit", "why", "()I"⟩ ∈ rl_G := rl_wd 308 rfl rfl
set_option maxRecDepth 100000 in
theorem wd_309 : Cond.selects "RightsLimit" ⟨"RightsLimit", "why", "()I"⟩ ⟨"RightsLimit", "why", "()I"⟩ ∈ rl_G := rl_wd 309 rfl rfl
set_option maxRecDepth 100000 in
theorem wd_310 : Cond.code ⟨"RightsLimit", "why", "()I"⟩ prog_1_method_8_code 1 (some .int) ∈ rl_G := rl_wd 310 rfl rfl
set_option maxRecDepth 100000 in
theorem wd_311 : Cond.methodLink "RightsLimitLaw" 55 ⟨"RightsLimit", "give", "(IIZ)I"⟩ ∈ rl_G := rl_wd 311 rfl rfl
set_option maxRecDepth 100000 in
theorem wd_312 : Cond.instanceMethod ⟨"RightsLimit", "give", "(IIZ)I"⟩ ∈ rl_G := rl_wd 312 rfl rfl
set_option maxRecDepth 100000 in
theorem wd_313 : Cond.selects "RightsLimit" ⟨"RightsLimit", "give", "(IIZ)I"⟩ ⟨"RightsLimit", "give", "(IIZ)I"⟩ ∈ rl_G := rl_wd 313 rfl rfl
set_option maxRecDepth 100000 in
theorem wd_314 : Cond.code ⟨"RightsLimit", "give", "(IIZ)I"⟩ prog_1_method_9_code 5 (some .int) ∈ rl_G := rl_wd 314 rfl rfl
set_option maxRecDepth 100000 in
theorem wd_315 : Cond.methodLink "RightsLimitLaw" 60 ⟨"RightsLimit", "right", "(II)I"⟩ ∈ rl_G := rl_wd 315 rfl rfl
set_option maxRecDepth 100000 in
theorem wd_316 : Cond.instanceMethod ⟨"RightsLimit", "right", "(II)I"⟩ ∈ rl_G := rl_wd 316 rfl rfl
set_option maxRecDepth 100000 in
theorem wd_317 : Cond.selects "RightsLimit" ⟨"RightsLimit", "right", "(II)I"⟩ ⟨"RightsLimit", "right", "(II)I"⟩ ∈ rl_G := rl_wd 317 rfl rfl
set_option maxRecDepth 100000 in
theorem wd_318 : Cond.code ⟨"RightsLimit", "right", "(II)I"⟩ prog_1_method_10_code 3 (some .int) ∈ rl_G := rl_wd 318 rfl rfl
set_option maxRecDepth 100000 in
theorem wd_319 : Cond.methodLink "RightsLimitLaw" 64 ⟨"RightsLimit", "waive", "(II)I"⟩ ∈ rl_G := rl_wd 319 rfl rfl
set_option maxRecDepth 100000 in
theorem wd_320 : Cond.instanceMethod ⟨"RightsLimit", "waive", "(II)I"⟩ ∈ rl_G := rl_wd 320 rfl rfl
set_option maxRecDepth 100000 in
theorem wd_321 : Cond.selects "RightsLimit" ⟨"RightsLimit", "waive", "(II)I"⟩ ⟨"RightsLimit", "waive", "(II)I"⟩ ∈ rl_G := rl_wd 321 rfl rfl
set_option maxRecDepth 100000 in
theorem wd_322 : Cond.code ⟨"RightsLimit", "waive", "(II)I"⟩ prog_1_method_11_code 3 (some .int) ∈ rl_G := rl_wd 322 rfl rfl
set_option maxRecDepth 100000 in
theorem wd_327 : Cond.methodLink "RightsLimitLaw" 68 ⟨"RightsLimit", "renew", "(II)I"⟩ ∈ rl_G := rl_wd 327 rfl rfl
set_option maxRecDepth 100000 in
theorem wd_328 : Cond.instanceMethod ⟨"RightsLimit", "renew", "(II)I"⟩ ∈ rl_G := rl_wd 328 rfl rfl
set_option maxRecDepth 100000 in
theorem wd_329 : Cond.selects "RightsLimit" ⟨"RightsLimit", "renew", "(II)I"⟩ ⟨"RightsLimit", "renew", "(II)I"⟩ ∈ rl_G := rl_wd 329 rfl rfl
set_option maxRecDepth 100000 in
theorem wd_330 : Cond.code ⟨"RightsLimit", "renew", "(II)I"⟩ prog_1_method_12_code 3 (some .int) ∈ rl_G := rl_wd 330 rfl rfl
set_option maxRecDepth 100000 in
theorem wd_352 : Cond.methodLink "RightsLimitLaw" 72 ⟨"RightsLimit", "delete", "(II)I"⟩ ∈ rl_G := rl_wd 352 rfl rfl
set_option maxRecDepth 100000 in
theorem wd_353 : Cond.instanceMethod ⟨"RightsLimit", "delete", "(II)I"⟩ ∈ rl_G := rl_wd 353 rfl rfl
set_option maxRecDepth 100000 in
theorem wd_354 : Cond.selects "RightsLimit" ⟨"RightsLimit", "delete", "(II)I"⟩ ⟨"RightsLimit", "delete", "(II)I"⟩ ∈ rl_G := rl_wd 354 rfl rfl
set_option maxRecDepth 100000 in
theorem wd_355 : Cond.code ⟨"RightsLimit", "delete", "(II)I"⟩ prog_1_method_13_code 3 (some .int) ∈ rl_G := rl_wd 355 rfl rfl
set_option maxRecDepth 100000 in
theorem wd_358 : Cond.methodLink "RightsLimitLaw" 76 ⟨"RightsLimit", "counted", "(IIII)I"⟩ ∈ rl_G := rl_wd 358 rfl rfl
set_option maxRecDepth 100000 in
theorem wd_359 : Cond.instanceMethod ⟨"RightsLimit", "counted", "(IIII)I"⟩ ∈ rl_G := rl_wd 359 rfl rfl
set_option maxRecDepth 100000 in
theorem wd_360 : Cond.selects "RightsLimit" ⟨"RightsLimit", "counted", "(IIII)I"⟩ ⟨"RightsLimit", "counted", "(IIII)I"⟩ ∈ rl_G := rl_wd 360 rfl rfl
set_option maxRecDepth 100000 in
theorem wd_361 : Cond.code ⟨"RightsLimit", "counted", "(IIII)I"⟩ prog_1_method_14_code 5 (some .int) ∈ rl_G := rl_wd 361 rfl rfl
set_option maxRecDepth 100000 in
theorem wd_362 : Cond.methodLink "RightsLimitLaw" 89 ⟨"RightsLimit", "left", "(I)I"⟩ ∈ rl_G := rl_wd 362 rfl rfl
set_option maxRecDepth 100000 in
theorem wd_363 : Cond.instanceMethod ⟨"RightsLimit", "left", "(I)I"⟩ ∈ rl_G := rl_wd 363 rfl rfl
set_option maxRecDepth 100000 in
theorem wd_364 : Cond.selects "RightsLimit" ⟨"RightsLimit", "left", "(I)I"⟩ ⟨"RightsLimit", "left", "(I)I"⟩ ∈ rl_G := rl_wd 364 rfl rfl
set_option maxRecDepth 100000 in
theorem wd_365 : Cond.code ⟨"RightsLimit", "left", "(I)I"⟩ prog_1_method_16_code 2 (some .int) ∈ rl_G := rl_wd 365 rfl rfl
set_option maxRecDepth 100000 in
theorem wd_370 : Cond.methodLink "RightsLimitLaw" 93 ⟨"RightsLimit", "statistics", "(II)I"⟩ ∈ rl_G := rl_wd 370 rfl rfl
set_option maxRecDepth 100000 in
theorem wd_371 : Cond.instanceMethod ⟨"RightsLimit", "statistics", "(II)I"⟩ ∈ rl_G := rl_wd 371 rfl rfl
set_option maxRecDepth 100000 in
theorem wd_372 : Cond.selects "RightsLimit" ⟨"RightsLimit", "statistics", "(II)I"⟩ ⟨"RightsLimit", "statistics", "(II)I"⟩ ∈ rl_G := rl_wd 372 rfl rfl
set_option maxRecDepth 100000 in
theorem wd_373 : Cond.code ⟨"RightsLimit", "statistics", "(II)I"⟩ prog_1_method_17_code 3 (some .int) ∈ rl_G := rl_wd 373 rfl rfl
set_option maxRecDepth 100000 in
theorem wd_390 : Cond.methodLink "RightsLimitLaw" 80 ⟨"RightsLimitLaw", "request", "(LRightsLimit;II[J)I"⟩ ∈ rl_G := rl_wd 390 rfl rfl
set_option maxRecDepth 100000 in
theorem wd_391 : Cond.static ⟨"RightsLimitLaw", "request", "(LRightsLimit;II[J)I"⟩ ∈ rl_G := rl_wd 391 rfl rfl
set_option maxRecDepth 100000 in
theorem wd_465 : Cond.methodLink "RightsLimitLaw" 97 ⟨"RightsLimitLaw", "past", "(LRightsLimit;II[J)I"⟩ ∈ rl_G := rl_wd 465 rfl rfl
set_option maxRecDepth 100000 in
theorem wd_466 : Cond.static ⟨"RightsLimitLaw", "past", "(LRightsLimit;II[J)I"⟩ ∈ rl_G := rl_wd 466 rfl rfl
set_option maxRecDepth 100000 in
theorem wd_477 : Cond.classLink "RightsLimitLaw" 19 "RightsLimitModel" ∈ rl_G := rl_wd 477 rfl rfl
set_option maxRecDepth 100000 in
theorem wd_478 : Cond.instantiable "RightsLimitModel" 33 ∈ rl_G := rl_wd 478 rfl rfl
set_option maxRecDepth 100000 in
theorem wd_479 : Cond.methodLink "RightsLimitLaw" 21 ⟨"RightsLimitModel", "<init>", "()V"⟩ ∈ rl_G := rl_wd 479 rfl rfl
set_option maxRecDepth 100000 in
theorem wd_480 : Cond.instanceMethod ⟨"RightsLimitModel", "<init>", "()V"⟩ ∈ rl_G := rl_wd 480 rfl rfl
set_option maxRecDepth 100000 in
theorem wd_481 : Cond.code ⟨"RightsLimitModel", "<init>", "()V"⟩ prog_7_method_1_code 1 none ∈ rl_G := rl_wd 481 rfl rfl
set_option maxRecDepth 100000 in
theorem wd_583 : Cond.methodLink "RightsLimitLaw" 86 ⟨"RightsLimitModel", "thrown", "()I"⟩ ∈ rl_G := rl_wd 583 rfl rfl
set_option maxRecDepth 100000 in
theorem wd_584 : Cond.instanceMethod ⟨"RightsLimitModel", "thrown", "()I"⟩ ∈ rl_G := rl_wd 584 rfl rfl
set_option maxRecDepth 100000 in
theorem wd_585 : Cond.selects "RightsLimitModel" ⟨"RightsLimitModel", "thrown", "()I"⟩ ⟨"RightsLimitModel", "thrown", "()I"⟩ ∈ rl_G := rl_wd 585 rfl rfl
set_option maxRecDepth 100000 in
theorem wd_586 : Cond.code ⟨"RightsLimitModel", "thrown", "()I"⟩ prog_7_method_2_code 1 (some .int) ∈ rl_G := rl_wd 586 rfl rfl
set_option maxRecDepth 100000 in
theorem wd_587 : Cond.methodLink "RightsLimitLaw" 26 ⟨"RightsLimitModel", "title", "(I)I"⟩ ∈ rl_G := rl_wd 587 rfl rfl
set_option maxRecDepth 100000 in
theorem wd_588 : Cond.instanceMethod ⟨"RightsLimitModel", "title", "(I)I"⟩ ∈ rl_G := rl_wd 588 rfl rfl
set_option maxRecDepth 100000 in
theorem wd_589 : Cond.selects "RightsLimitModel" ⟨"RightsLimitModel", "title", "(I)I"⟩ ⟨"RightsLimitModel", "title", "(I)I"⟩ ∈ rl_G := rl_wd 589 rfl rfl
set_option maxRecDepth 100000 in
theorem wd_590 : Cond.code ⟨"RightsLimitModel", "title", "(I)I"⟩ prog_7_method_6_code 2 (some .int) ∈ rl_G := rl_wd 590 rfl rfl
set_option maxRecDepth 100000 in
theorem wd_594 : Cond.methodLink "RightsLimitLaw" 31 ⟨"RightsLimitModel", "open", "(IZ)I"⟩ ∈ rl_G := rl_wd 594 rfl rfl
set_option maxRecDepth 100000 in
theorem wd_595 : Cond.instanceMethod ⟨"RightsLimitModel", "open", "(IZ)I"⟩ ∈ rl_G := rl_wd 595 rfl rfl
set_option maxRecDepth 100000 in
theorem wd_596 : Cond.selects "RightsLimitModel" ⟨"RightsLimitModel", "open", "(IZ)I"⟩ ⟨"RightsLimitModel", "open", "(IZ)I"⟩ ∈ rl_G := rl_wd 596 rfl rfl
set_option maxRecDepth 100000 in
theorem wd_597 : Cond.code ⟨"RightsLimitModel", "open", "(IZ)I"⟩ prog_7_method_7_code 3 (some .int) ∈ rl_G := rl_wd 597 rfl rfl
set_option maxRecDepth 100000 in
theorem wd_602 : Cond.methodLink "RightsLimitLaw" 36 ⟨"RightsLimitModel", "limit", "(IIII)I"⟩ ∈ rl_G := rl_wd 602 rfl rfl
set_option maxRecDepth 100000 in
theorem wd_603 : Cond.instanceMethod ⟨"RightsLimitModel", "limit", "(IIII)I"⟩ ∈ rl_G := rl_wd 603 rfl rfl
set_option maxRecDepth 100000 in
theorem wd_604 : Cond.selects "RightsLimitModel" ⟨"RightsLimitModel", "limit", "(IIII)I"⟩ ⟨"RightsLimitModel", "limit", "(IIII)I"⟩ ∈ rl_G := rl_wd 604 rfl rfl
set_option maxRecDepth 100000 in
theorem wd_605 : Cond.code ⟨"RightsLimitModel", "limit", "(IIII)I"⟩ prog_7_method_8_code 5 (some .int) ∈ rl_G := rl_wd 605 rfl rfl
set_option maxRecDepth 100000 in
theorem wd_606 : Cond.methodLink "RightsLimitLaw" 41 ⟨"RightsLimitModel", "licence", "(IIIII)I"⟩ ∈ rl_G := rl_wd 606 rfl rfl
set_option maxRecDepth 100000 in
theorem wd_607 : Cond.instanceMethod ⟨"RightsLimitModel", "licence", "(IIIII)I"⟩ ∈ rl_G := rl_wd 607 rfl rfl
set_option maxRecDepth 100000 in
theorem wd_608 : Cond.selects "RightsLimitModel" ⟨"RightsLimitModel", "licence", "(IIIII)I"⟩ ⟨"RightsLimitModel", "licence", "(IIIII)I"⟩ ∈ rl_G := rl_wd 608 rfl rfl
set_option maxRecDepth 100000 in
theorem wd_609 : Cond.code ⟨"RightsLimitModel", "licence", "(IIIII)I"⟩ prog_7_method_9_code 6 (some .int) ∈ rl_G := rl_wd 609 rfl rfl
set_option maxRecDepth 100000 in
theorem wd_611 : Cond.methodLink "RightsLimitLaw" 45 ⟨"RightsLimitModel", "fee", "(II)I"⟩ ∈ rl_G := rl_wd 611 rfl rfl
set_option maxRecDepth 100000 in
theorem wd_612 : Cond.instanceMethod ⟨"RightsLimitModel", "fee", "(II)I"⟩ ∈ rl_G := rl_wd 612 rfl rfl
set_option maxRecDepth 100000 in
theorem wd_613 : Cond.selects "RightsLimitModel" ⟨"RightsLimitModel", "fee", "(II)I"⟩ ⟨"RightsLimitModel", "fee", "(II)I"⟩ ∈ rl_G := rl_wd 613 rfl rfl
set_option maxRecDepth 100000 in
theorem wd_614 : Cond.code ⟨"RightsLimitModel", "fee", "(II)I"⟩ prog_7_method_10_code 3 (some .int) ∈ rl_G := rl_wd 614 rfl rfl
set_option maxRecDepth 100000 in
theorem wd_615 : Cond.methodLink "RightsLimitLaw" 49 ⟨"RightsLimitModel", "ask", "(IIIII)I"⟩ ∈ rl_G := rl_wd 615 rfl rfl
set_option maxRecDepth 100000 in
theorem wd_616 : Cond.instanceMethod ⟨"RightsLimitModel", "ask", "(IIIII)I"⟩ ∈ rl_G := rl_wd 616 rfl rfl
set_option maxRecDepth 100000 in
theorem wd_617 : Cond.selects "RightsLimitModel" ⟨"RightsLimitModel", "ask", "(IIIII)I"⟩ ⟨"RightsLimitModel", "ask", "(IIIII)I"⟩ ∈ rl_G := rl_wd 617 rfl rfl
set_option maxRecDepth 100000 in
theorem wd_618 : Cond.code ⟨"RightsLimitModel", "ask", "(IIIII)I"⟩ prog_7_method_15_code 8 (some .int) ∈ rl_G := rl_wd 618 rfl rfl
set_option maxRecDepth 100000 in
theorem wd_641 : Cond.methodLink "RightsLimitLaw" 54 ⟨"RightsLimitModel", "why", "()I"⟩ ∈ rl_G := rl_wd 641 rfl rfl
set_option maxRecDepth 100000 in
theorem wd_642 : Cond.instanceMethod ⟨"RightsLimitModel", "why", "()I"⟩ ∈ rl_G := rl_wd 642 rfl rfl
set_option maxRecDepth 100000 in
theorem wd_643 : Cond.selects "RightsLimitModel" ⟨"RightsLimitModel", "why", "()I"⟩ ⟨"RightsLimitModel", "why", "()I"⟩ ∈ rl_G := rl_wd 643 rfl rfl
set_option maxRecDepth 100000 in
theorem wd_644 : Cond.code ⟨"RightsLimitModel", "why", "()I"⟩ prog_7_method_16_code 1 (some .int) ∈ rl_G := rl_wd 644 rfl rfl
set_option maxRecDepth 100000 in
theorem wd_645 : Cond.methodLink "RightsLimitLaw" 59 ⟨"RightsLimitModel", "give", "(IIZ)I"⟩ ∈ rl_G := rl_wd 645 rfl rfl
set_option maxRecDepth 100000 in
theorem wd_646 : Cond.instanceMethod ⟨"RightsLimitModel", "give", "(IIZ)I"⟩ ∈ rl_G := rl_wd 646 rfl rfl
set_option maxRecDepth 100000 in
theorem wd_647 : Cond.selects "RightsLimitModel" ⟨"RightsLimitModel", "give", "(IIZ)I"⟩ ⟨"RightsLimitModel", "give", "(IIZ)I"⟩ ∈ rl_G := rl_wd 647 rfl rfl
set_option maxRecDepth 100000 in
theorem wd_648 : Cond.code ⟨"RightsLimitModel", "give", "(IIZ)I"⟩ prog_7_method_17_code 4 (some .int) ∈ rl_G := rl_wd 648 rfl rfl
set_option maxRecDepth 100000 in
theorem wd_649 : Cond.methodLink "RightsLimitLaw" 63 ⟨"RightsLimitModel", "right", "(II)I"⟩ ∈ rl_G := rl_wd 649 rfl rfl
set_option maxRecDepth 100000 in
theorem wd_650 : Cond.instanceMethod ⟨"RightsLimitModel", "right", "(II)I"⟩ ∈ rl_G := rl_wd 650 rfl rfl
set_option maxRecDepth 100000 in
theorem wd_651 : Cond.selects "RightsLimitModel" ⟨"RightsLimitModel", "right", "(II)I"⟩ ⟨"RightsLimitModel", "right", "(II)I"⟩ ∈ rl_G := rl_wd 651 rfl rfl
set_option maxRecDepth 100000 in
theorem wd_652 : Cond.code ⟨"RightsLimitModel", "right", "(II)I"⟩ prog_7_method_18_code 3 (some .int) ∈ rl_G := rl_wd 652 rfl rfl
set_option maxRecDepth 100000 in
theorem wd_653 : Cond.methodLink "RightsLimitLaw" 67 ⟨"RightsLimitModel", "waive", "(II)I"⟩ ∈ rl_G := rl_wd 653 rfl rfl
set_option maxRecDepth 100000 in
theorem wd_654 : Cond.instanceMethod ⟨"RightsLimitModel", "waive", "(II)I"⟩ ∈ rl_G := rl_wd 654 rfl rfl
set_option maxRecDepth 100000 in
theorem wd_655 : Cond.selects "RightsLimitModel" ⟨"RightsLimitModel", "waive", "(II)I"⟩ ⟨"RightsLimitModel", "waive", "(II)I"⟩ ∈ rl_G := rl_wd 655 rfl rfl
set_option maxRecDepth 100000 in
theorem wd_656 : Cond.code ⟨"RightsLimitModel", "waive", "(II)I"⟩ prog_7_method_19_code 3 (some .int) ∈ rl_G := rl_wd 656 rfl rfl
set_option maxRecDepth 100000 in
theorem wd_657 : Cond.methodLink "RightsLimitLaw" 71 ⟨"RightsLimitModel", "renew", "(II)I"⟩ ∈ rl_G := rl_wd 657 rfl rfl
set_option maxRecDepth 100000 in
theorem wd_658 : Cond.instanceMethod ⟨"RightsLimitModel", "renew", "(II)I"⟩ ∈ rl_G := rl_wd 658 rfl rfl
set_option maxRecDepth 100000 in
theorem wd_659 : Cond.selects "RightsLimitModel" ⟨"RightsLimitModel", "renew", "(II)I"⟩ ⟨"RightsLimitModel", "renew", "(II)I"⟩ ∈ rl_G := rl_wd 659 rfl rfl
set_option maxRecDepth 100000 in
theorem wd_660 : Cond.code ⟨"RightsLimitModel", "renew", "(II)I"⟩ prog_7_method_20_code 3 (some .int) ∈ rl_G := rl_wd 660 rfl rfl
set_option maxRecDepth 100000 in
theorem wd_661 : Cond.methodLink "RightsLimitLaw" 75 ⟨"RightsLimitModel", "delete", "(II)I"⟩ ∈ rl_G := rl_wd 661 rfl rfl
set_option maxRecDepth 100000 in
theorem wd_662 : Cond.instanceMethod ⟨"RightsLimitModel", "delete", "(II)I"⟩ ∈ rl_G := rl_wd 662 rfl rfl
set_option maxRecDepth 100000 in
theorem wd_663 : Cond.selects "RightsLimitModel" ⟨"RightsLimitModel", "delete", "(II)I"⟩ ⟨"RightsLimitModel", "delete", "(II)I"⟩ ∈ rl_G := rl_wd 663 rfl rfl
set_option maxRecDepth 100000 in
theorem wd_664 : Cond.code ⟨"RightsLimitModel", "delete", "(II)I"⟩ prog_7_method_21_code 3 (some .int) ∈ rl_G := rl_wd 664 rfl rfl
set_option maxRecDepth 100000 in
theorem wd_665 : Cond.methodLink "RightsLimitLaw" 79 ⟨"RightsLimitModel", "counted", "(IIII)I"⟩ ∈ rl_G := rl_wd 665 rfl rfl
set_option maxRecDepth 100000 in
theorem wd_666 : Cond.instanceMethod ⟨"RightsLimitModel", "counted", "(IIII)I"⟩ ∈ rl_G := rl_wd 666 rfl rfl
set_option maxRecDepth 100000 in
theorem wd_667 : Cond.selects "RightsLimitModel" ⟨"RightsLimitModel", "counted", "(IIII)I"⟩ ⟨"RightsLimitModel", "counted", "(IIII)I"⟩ ∈ rl_G := rl_wd 667 rfl rfl
set_option maxRecDepth 100000 in
theorem wd_668 : Cond.code ⟨"RightsLimitModel", "counted", "(IIII)I"⟩ prog_7_method_22_code 5 (some .int) ∈ rl_G := rl_wd 668 rfl rfl
set_option maxRecDepth 100000 in
theorem wd_669 : Cond.methodLink "RightsLimitLaw" 85 ⟨"RightsLimitModel", "request", "(II)I"⟩ ∈ rl_G := rl_wd 669 rfl rfl
set_option maxRecDepth 100000 in
theorem wd_670 : Cond.instanceMethod ⟨"RightsLimitModel", "request", "(II)I"⟩ ∈ rl_G := rl_wd 670 rfl rfl
set_option maxRecDepth 100000 in
theorem wd_671 : Cond.selects "RightsLimitModel" ⟨"RightsLimitModel", "request", "(II)I"⟩ ⟨"RightsLimitModel", "request", "(II)I"⟩ ∈ rl_G := rl_wd 671 rfl rfl
set_option maxRecDepth 100000 in
theorem wd_672 : Cond.code ⟨"RightsLimitModel", "request", "(II)I"⟩ prog_7_method_24_code 3 (some .int) ∈ rl_G := rl_wd 672 rfl rfl
set_option maxRecDepth 100000 in
theorem wd_677 : Cond.methodLink "RightsLimitLaw" 92 ⟨"RightsLimitModel", "left", "(I)I"⟩ ∈ rl_G := rl_wd 677 rfl rfl
set_option maxRecDepth 100000 in
theorem wd_678 : Cond.instanceMethod ⟨"RightsLimitModel", "left", "(I)I"⟩ ∈ rl_G := rl_wd 678 rfl rfl
set_option maxRecDepth 100000 in
theorem wd_679 : Cond.selects "RightsLimitModel" ⟨"RightsLimitModel", "left", "(I)I"⟩ ⟨"RightsLimitModel", "left", "(I)I"⟩ ∈ rl_G := rl_wd 679 rfl rfl
set_option maxRecDepth 100000 in
theorem wd_680 : Cond.code ⟨"RightsLimitModel", "left", "(I)I"⟩ prog_7_method_25_code 2 (some .int) ∈ rl_G := rl_wd 680 rfl rfl
set_option maxRecDepth 100000 in
theorem wd_681 : Cond.methodLink "RightsLimitLaw" 96 ⟨"RightsLimitModel", "statistics", "(II)I"⟩ ∈ rl_G := rl_wd 681 rfl rfl
set_option maxRecDepth 100000 in
theorem wd_682 : Cond.instanceMethod ⟨"RightsLimitModel", "statistics", "(II)I"⟩ ∈ rl_G := rl_wd 682 rfl rfl
set_option maxRecDepth 100000 in
theorem wd_683 : Cond.selects "RightsLimitModel" ⟨"RightsLimitModel", "statistics", "(II)I"⟩ ⟨"RightsLimitModel", "statistics", "(II)I"⟩ ∈ rl_G := rl_wd 683 rfl rfl
set_option maxRecDepth 100000 in
theorem wd_684 : Cond.code ⟨"RightsLimitModel", "statistics", "(II)I"⟩ prog_7_method_26_code 5 (some .int) ∈ rl_G := rl_wd 684 rfl rfl
set_option maxRecDepth 100000 in
theorem wd_685 : Cond.methodLink "RightsLimitLaw" 99 ⟨"RightsLimitModel", "past", "(II)I"⟩ ∈ rl_G := rl_wd 685 rfl rfl
set_option maxRecDepth 100000 in
theorem wd_686 : Cond.instanceMethod ⟨"RightsLimitModel", "past", "(II)I"⟩ ∈ rl_G := rl_wd 686 rfl rfl
set_option maxRecDepth 100000 in
theorem wd_687 : Cond.selects "RightsLimitModel" ⟨"RightsLimitModel", "past", "(II)I"⟩ ⟨"RightsLimitModel", "past", "(II)I"⟩ ∈ rl_G := rl_wd 687 rfl rfl
set_option maxRecDepth 100000 in
theorem wd_688 : Cond.code ⟨"RightsLimitModel", "past", "(II)I"⟩ prog_7_method_27_code 5 (some .int) ∈ rl_G := rl_wd 688 rfl rfl
set_option maxRecDepth 100000 in
theorem wd_689 : Cond.arrayClass .long ∈ rl_G := rl_wd 689 rfl rfl
end
section
theorem d_w_law_0 : decode code 0 = .ok (.new 8, 3) := by decide +kernel
theorem d_w_law_3 : decode code 3 = .ok (.dup, 1) := by decide +kernel
theorem d_w_law_4 : decode code 4 = .ok (.invokespecial 18, 3) := by decide +kernel
theorem d_w_law_7 : decode code 7 = .ok (.astore_n 1, 1) := by decide +kernel
theorem d_w_law_8 : decode code 8 = .ok (.new 19, 3) := by decide +kernel
theorem d_w_law_11 : decode code 11 = .ok (.dup, 1) := by decide +kernel
theorem d_w_law_12 : decode code 12 = .ok (.invokespecial 21, 3) := by decide +kernel
theorem d_w_law_15 : decode code 15 = .ok (.astore_n 2, 1) := by decide +kernel
theorem d_w_law_16 : decode code 16 = .ok (.iconst 1, 1) := by decide +kernel
theorem d_w_law_17 : decode code 17 = .ok (.newarray .long, 2) := by decide +kernel
theorem d_w_law_19 : decode code 19 = .ok (.astore_n 3, 1) := by decide +kernel
theorem d_w_law_20 : decode code 20 = .ok (.iconst 0, 1) := by decide +kernel
theorem d_w_law_21 : decode code 21 = .ok (.istore 4, 2) := by decide +kernel
theorem d_w_law_23 : decode code 23 = .ok (.iload 4, 2) := by decide +kernel
theorem d_w_law_25 : decode code 25 = .ok (.aload_n 0, 1) := by decide +kernel
theorem d_w_law_26 : decode code 26 = .ok (.arraylength, 1) := by decide +kernel
theorem d_w_law_27 : decode code 27 = .ok (.bipush 6, 2) := by decide +kernel
theorem d_w_law_29 : decode code 29 = .ok (.isub, 1) := by decide +kernel
theorem d_w_law_30 : decode code 30 = .ok (.if_icmp .gt 907, 3) := by decide +kernel
theorem d_w_law_33 : decode code 33 = .ok (.aload_n 0, 1) := by decide +kernel
theorem d_w_law_34 : decode code 34 = .ok (.iload 4, 2) := by decide +kernel
theorem d_w_law_36 : decode code 36 = .ok (.iaload, 1) := by decide +kernel
theorem d_w_law_37 : decode code 37 = .ok (.bipush 31, 2) := by decide +kernel
theorem d_w_law_39 : decode code 39 = .ok (.iand, 1) := by decide +kernel
theorem d_w_law_40 : decode code 40 = .ok (.tableswitch 891 0 16 #[84, 109, 162, 223, 296, 333, 406, 419, 484, 521, 558, 595, 632, 693, 761, 786, 823], 84) := by decide +kernel
theorem d_w_law_124 : decode code 124 = .ok (.aload_n 1, 1) := by decide +kernel
theorem d_w_law_125 : decode code 125 = .ok (.aload_n 0, 1) := by decide +kernel
theorem d_w_law_126 : decode code 126 = .ok (.iload 4, 2) := by decide +kernel
theorem d_w_law_128 : decode code 128 = .ok (.iconst 1, 1) := by decide +kernel
theorem d_w_law_129 : decode code 129 = .ok (.iadd, 1) := by decide +kernel
theorem d_w_law_130 : decode code 130 = .ok (.iaload, 1) := by decide +kernel
theorem d_w_law_131 : decode code 131 = .ok (.invokevirtual 22, 3) := by decide +kernel
theorem d_w_law_134 : decode code 134 = .ok (.aload_n 2, 1) := by decide +kernel
theorem d_w_law_135 : decode code 135 = .ok (.aload_n 0, 1) := by decide +kernel
theorem d_w_law_136 : decode code 136 = .ok (.iload 4, 2) := by decide +kernel
theorem d_w_law_138 : decode code 138 = .ok (.iconst 1, 1) := by decide +kernel
theorem d_w_law_139 : decode code 139 = .ok (.iadd, 1) := by decide +kernel
theorem d_w_law_140 : decode code 140 = .ok (.iaload, 1) := by decide +kernel
theorem d_w_law_141 : decode code 141 = .ok (.invokevirtual 26, 3) := by decide +kernel
theorem d_w_law_144 : decode code 144 = .ok (.if_icmp .eq 787, 3) := by decide +kernel
theorem d_w_law_149 : decode code 149 = .ok (.aload_n 1, 1) := by decide +kernel
theorem d_w_law_150 : decode code 150 = .ok (.aload_n 0, 1) := by decide +kernel
theorem d_w_law_151 : decode code 151 = .ok (.iload 4, 2) := by decide +kernel
theorem d_w_law_153 : decode code 153 = .ok (.iconst 1, 1) := by decide +kernel
theorem d_w_law_154 : decode code 154 = .ok (.iadd, 1) := by decide +kernel
theorem d_w_law_155 : decode code 155 = .ok (.iaload, 1) := by decide +kernel
theorem d_w_law_156 : decode code 156 = .ok (.aload_n 0, 1) := by decide +kernel
theorem d_w_law_157 : decode code 157 = .ok (.iload 4, 2) := by decide +kernel
theorem d_w_law_159 : decode code 159 = .ok (.iconst 2, 1) := by decide +kernel
theorem d_w_law_160 : decode code 160 = .ok (.iadd, 1) := by decide +kernel
theorem d_w_law_161 : decode code 161 = .ok (.iaload, 1) := by decide +kernel
theorem d_w_law_162 : decode code 162 = .ok (.ifCond .eq 7, 3) := by decide +kernel
theorem d_w_law_165 : decode code 165 = .ok (.iconst 1, 1) := by decide +kernel
theorem d_w_law_166 : decode code 166 = .ok (.goto 4, 3) := by decide +kernel
theorem d_w_law_169 : decode code 169 = .ok (.iconst 0, 1) := by decide +kernel
theorem d_w_law_170 : decode code 170 = .ok (.invokevirtual 27, 3) := by decide +kernel
theorem d_w_law_173 : decode code 173 = .ok (.aload_n 2, 1) := by decide +kernel
theorem d_w_law_174 : decode code 174 = .ok (.aload_n 0, 1) := by decide +kernel
theorem d_w_law_175 : decode code 175 = .ok (.iload 4, 2) := by decide +kernel
theorem d_w_law_177 : decode code 177 = .ok (.iconst 1, 1) := by decide +kernel
theorem d_w_law_178 : decode code 178 = .ok (.iadd, 1) := by decide +kernel
theorem d_w_law_179 : decode code 179 = .ok (.iaload, 1) := by decide +kernel
theorem d_w_law_180 : decode code 180 = .ok (.aload_n 0, 1) := by decide +kernel
theorem d_w_law_181 : decode code 181 = .ok (.iload 4, 2) := by decide +kernel
theorem d_w_law_183 : decode code 183 = .ok (.iconst 2, 1) := by decide +kernel
theorem d_w_law_184 : decode code 184 = .ok (.iadd, 1) := by decide +kernel
theorem d_w_law_185 : decode code 185 = .ok (.iaload, 1) := by decide +kernel
theorem d_w_law_186 : decode code 186 = .ok (.ifCond .eq 7, 3) := by decide +kernel
theorem d_w_law_189 : decode code 189 = .ok (.iconst 1, 1) := by decide +kernel
theorem d_w_law_190 : decode code 190 = .ok (.goto 4, 3) := by decide +kernel
theorem d_w_law_193 : decode code 193 = .ok (.iconst 0, 1) := by decide +kernel
theorem d_w_law_194 : decode code 194 = .ok (.invokevirtual 31, 3) := by decide +kernel
theorem d_w_law_197 : decode code 197 = .ok (.if_icmp .eq 734, 3) := by decide +kernel
theorem d_w_law_202 : decode code 202 = .ok (.aload_n 1, 1) := by decide +kernel
theorem d_w_law_203 : decode code 203 = .ok (.aload_n 0, 1) := by decide +kernel
theorem d_w_law_204 : decode code 204 = .ok (.iload 4, 2) := by decide +kernel
theorem d_w_law_206 : decode code 206 = .ok (.iconst 1, 1) := by decide +kernel
theorem d_w_law_207 : decode code 207 = .ok (.iadd, 1) := by decide +kernel
theorem d_w_law_208 : decode code 208 = .ok (.iaload, 1) := by decide +kernel
theorem d_w_law_209 : decode code 209 = .ok (.aload_n 0, 1) := by decide +kernel
theorem d_w_law_210 : decode code 210 = .ok (.iload 4, 2) := by decide +kernel
theorem d_w_law_212 : decode code 212 = .ok (.iconst 2, 1) := by decide +kernel
theorem d_w_law_213 : decode code 213 = .ok (.iadd, 1) := by decide +kernel
theorem d_w_law_214 : decode code 214 = .ok (.iaload, 1) := by decide +kernel
theorem d_w_law_215 : decode code 215 = .ok (.aload_n 0, 1) := by decide +kernel
theorem d_w_law_216 : decode code 216 = .ok (.iload 4, 2) := by decide +kernel
theorem d_w_law_218 : decode code 218 = .ok (.iconst 3, 1) := by decide +kernel
theorem d_w_law_219 : decode code 219 = .ok (.iadd, 1) := by decide +kernel
theorem d_w_law_220 : decode code 220 = .ok (.iaload, 1) := by decide +kernel
theorem d_w_law_221 : decode code 221 = .ok (.aload_n 0, 1) := by decide +kernel
theorem d_w_law_222 : decode code 222 = .ok (.iload 4, 2) := by decide +kernel
theorem d_w_law_224 : decode code 224 = .ok (.iconst 4, 1) := by decide +kernel
theorem d_w_law_225 : decode code 225 = .ok (.iadd, 1) := by decide +kernel
theorem d_w_law_226 : decode code 226 = .ok (.iaload, 1) := by decide +kernel
theorem d_w_law_227 : decode code 227 = .ok (.invokevirtual 32, 3) := by decide +kernel
theorem d_w_law_230 : decode code 230 = .ok (.aload_n 2, 1) := by decide +kernel
theorem d_w_law_231 : decode code 231 = .ok (.aload_n 0, 1) := by decide +kernel
theorem d_w_law_232 : decode code 232 = .ok (.iload 4, 2) := by decide +kernel
theorem d_w_law_234 : decode code 234 = .ok (.iconst 1, 1) := by decide +kernel
theorem d_w_law_235 : decode code 235 = .ok (.iadd, 1) := by decide +kernel
theorem d_w_law_236 : decode code 236 = .ok (.iaload, 1) := by decide +kernel
theorem d_w_law_237 : decode code 237 = .ok (.aload_n 0, 1) := by decide +kernel
theorem d_w_law_238 : decode code 238 = .ok (.iload 4, 2) := by decide +kernel
theorem d_w_law_240 : decode code 240 = .ok (.iconst 2, 1) := by decide +kernel
theorem d_w_law_241 : decode code 241 = .ok (.iadd, 1) := by decide +kernel
theorem d_w_law_242 : decode code 242 = .ok (.iaload, 1) := by decide +kernel
theorem d_w_law_243 : decode code 243 = .ok (.aload_n 0, 1) := by decide +kernel
theorem d_w_law_244 : decode code 244 = .ok (.iload 4, 2) := by decide +kernel
theorem d_w_law_246 : decode code 246 = .ok (.iconst 3, 1) := by decide +kernel
theorem d_w_law_247 : decode code 247 = .ok (.iadd, 1) := by decide +kernel
theorem d_w_law_248 : decode code 248 = .ok (.iaload, 1) := by decide +kernel
theorem d_w_law_249 : decode code 249 = .ok (.aload_n 0, 1) := by decide +kernel
theorem d_w_law_250 : decode code 250 = .ok (.iload 4, 2) := by decide +kernel
theorem d_w_law_252 : decode code 252 = .ok (.iconst 4, 1) := by decide +kernel
theorem d_w_law_253 : decode code 253 = .ok (.iadd, 1) := by decide +kernel
theorem d_w_law_254 : decode code 254 = .ok (.iaload, 1) := by decide +kernel
theorem d_w_law_255 : decode code 255 = .ok (.invokevirtual 36, 3) := by decide +kernel
theorem d_w_law_258 : decode code 258 = .ok (.if_icmp .eq 673, 3) := by decide +kernel
theorem d_w_law_263 : decode code 263 = .ok (.aload_n 1, 1) := by decide +kernel
theorem d_w_law_264 : decode code 264 = .ok (.aload_n 0, 1) := by decide +kernel
theorem d_w_law_265 : decode code 265 = .ok (.iload 4, 2) := by decide +kernel
theorem d_w_law_267 : decode code 267 = .ok (.iconst 1, 1) := by decide +kernel
theorem d_w_law_268 : decode code 268 = .ok (.iadd, 1) := by decide +kernel
theorem d_w_law_269 : decode code 269 = .ok (.iaload, 1) := by decide +kernel
theorem d_w_law_270 : decode code 270 = .ok (.aload_n 0, 1) := by decide +kernel
theorem d_w_law_271 : decode code 271 = .ok (.iload 4, 2) := by decide +kernel
theorem d_w_law_273 : decode code 273 = .ok (.iconst 2, 1) := by decide +kernel
theorem d_w_law_274 : decode code 274 = .ok (.iadd, 1) := by decide +kernel
theorem d_w_law_275 : decode code 275 = .ok (.iaload, 1) := by decide +kernel
theorem d_w_law_276 : decode code 276 = .ok (.aload_n 0, 1) := by decide +kernel
theorem d_w_law_277 : decode code 277 = .ok (.iload 4, 2) := by decide +kernel
theorem d_w_law_279 : decode code 279 = .ok (.iconst 3, 1) := by decide +kernel
theorem d_w_law_280 : decode code 280 = .ok (.iadd, 1) := by decide +kernel
theorem d_w_law_281 : decode code 281 = .ok (.iaload, 1) := by decide +kernel
theorem d_w_law_282 : decode code 282 = .ok (.aload_n 0, 1) := by decide +kernel
theorem d_w_law_283 : decode code 283 = .ok (.iload 4, 2) := by decide +kernel
theorem d_w_law_285 : decode code 285 = .ok (.iconst 4, 1) := by decide +kernel
theorem d_w_law_286 : decode code 286 = .ok (.iadd, 1) := by decide +kernel
theorem d_w_law_287 : decode code 287 = .ok (.iaload, 1) := by decide +kernel
theorem d_w_law_288 : decode code 288 = .ok (.aload_n 0, 1) := by decide +kernel
theorem d_w_law_289 : decode code 289 = .ok (.iload 4, 2) := by decide +kernel
theorem d_w_law_291 : decode code 291 = .ok (.iconst 5, 1) := by decide +kernel
theorem d_w_law_292 : decode code 292 = .ok (.iadd, 1) := by decide +kernel
theorem d_w_law_293 : decode code 293 = .ok (.iaload, 1) := by decide +kernel
theorem d_w_law_294 : decode code 294 = .ok (.invokevirtual 37, 3) := by decide +kernel
theorem d_w_law_297 : decode code 297 = .ok (.aload_n 2, 1) := by decide +kernel
theorem d_w_law_298 : decode code 298 = .ok (.aload_n 0, 1) := by decide +kernel
theorem d_w_law_299 : decode code 299 = .ok (.iload 4, 2) := by decide +kernel
theorem d_w_law_301 : decode code 301 = .ok (.iconst 1, 1) := by decide +kernel
theorem d_w_law_302 : decode code 302 = .ok (.iadd, 1) := by decide +kernel
theorem d_w_law_303 : decode code 303 = .ok (.iaload, 1) := by decide +kernel
theorem d_w_law_304 : decode code 304 = .ok (.aload_n 0, 1) := by decide +kernel
theorem d_w_law_305 : decode code 305 = .ok (.iload 4, 2) := by decide +kernel
theorem d_w_law_307 : decode code 307 = .ok (.iconst 2, 1) := by decide +kernel
theorem d_w_law_308 : decode code 308 = .ok (.iadd, 1) := by decide +kernel
theorem d_w_law_309 : decode code 309 = .ok (.iaload, 1) := by decide +kernel
theorem d_w_law_310 : decode code 310 = .ok (.aload_n 0, 1) := by decide +kernel
theorem d_w_law_311 : decode code 311 = .ok (.iload 4, 2) := by decide +kernel
theorem d_w_law_313 : decode code 313 = .ok (.iconst 3, 1) := by decide +kernel
theorem d_w_law_314 : decode code 314 = .ok (.iadd, 1) := by decide +kernel
theorem d_w_law_315 : decode code 315 = .ok (.iaload, 1) := by decide +kernel
theorem d_w_law_316 : decode code 316 = .ok (.aload_n 0, 1) := by decide +kernel
theorem d_w_law_317 : decode code 317 = .ok (.iload 4, 2) := by decide +kernel
theorem d_w_law_319 : decode code 319 = .ok (.iconst 4, 1) := by decide +kernel
theorem d_w_law_320 : decode code 320 = .ok (.iadd, 1) := by decide +kernel
theorem d_w_law_321 : decode code 321 = .ok (.iaload, 1) := by decide +kernel
theorem d_w_law_322 : decode code 322 = .ok (.aload_n 0, 1) := by decide +kernel
theorem d_w_law_323 : decode code 323 = .ok (.iload 4, 2) := by decide +kernel
theorem d_w_law_325 : decode code 325 = .ok (.iconst 5, 1) := by decide +kernel
theorem d_w_law_326 : decode code 326 = .ok (.iadd, 1) := by decide +kernel
theorem d_w_law_327 : decode code 327 = .ok (.iaload, 1) := by decide +kernel
theorem d_w_law_328 : decode code 328 = .ok (.invokevirtual 41, 3) := by decide +kernel
theorem d_w_law_331 : decode code 331 = .ok (.if_icmp .eq 600, 3) := by decide +kernel
theorem d_w_law_336 : decode code 336 = .ok (.aload_n 1, 1) := by decide +kernel
theorem d_w_law_337 : decode code 337 = .ok (.aload_n 0, 1) := by decide +kernel
theorem d_w_law_338 : decode code 338 = .ok (.iload 4, 2) := by decide +kernel
theorem d_w_law_340 : decode code 340 = .ok (.iconst 1, 1) := by decide +kernel
theorem d_w_law_341 : decode code 341 = .ok (.iadd, 1) := by decide +kernel
theorem d_w_law_342 : decode code 342 = .ok (.iaload, 1) := by decide +kernel
theorem d_w_law_343 : decode code 343 = .ok (.aload_n 0, 1) := by decide +kernel
theorem d_w_law_344 : decode code 344 = .ok (.iload 4, 2) := by decide +kernel
theorem d_w_law_346 : decode code 346 = .ok (.iconst 2, 1) := by decide +kernel
theorem d_w_law_347 : decode code 347 = .ok (.iadd, 1) := by decide +kernel
theorem d_w_law_348 : decode code 348 = .ok (.iaload, 1) := by decide +kernel
theorem d_w_law_349 : decode code 349 = .ok (.invokevirtual 42, 3) := by decide +kernel
theorem d_w_law_352 : decode code 352 = .ok (.aload_n 2, 1) := by decide +kernel
theorem d_w_law_353 : decode code 353 = .ok (.aload_n 0, 1) := by decide +kernel
theorem d_w_law_354 : decode code 354 = .ok (.iload 4, 2) := by decide +kernel
theorem d_w_law_356 : decode code 356 = .ok (.iconst 1, 1) := by decide +kernel
theorem d_w_law_357 : decode code 357 = .ok (.iadd, 1) := by decide +kernel
theorem d_w_law_358 : decode code 358 = .ok (.iaload, 1) := by decide +kernel
theorem d_w_law_359 : decode code 359 = .ok (.aload_n 0, 1) := by decide +kernel
theorem d_w_law_360 : decode code 360 = .ok (.iload 4, 2) := by decide +kernel
theorem d_w_law_362 : decode code 362 = .ok (.iconst 2, 1) := by decide +kernel
theorem d_w_law_363 : decode code 363 = .ok (.iadd, 1) := by decide +kernel
theorem d_w_law_364 : decode code 364 = .ok (.iaload, 1) := by decide +kernel
theorem d_w_law_365 : decode code 365 = .ok (.invokevirtual 45, 3) := by decide +kernel
theorem d_w_law_368 : decode code 368 = .ok (.if_icmp .eq 563, 3) := by decide +kernel
theorem d_w_law_373 : decode code 373 = .ok (.aload_n 1, 1) := by decide +kernel
theorem d_w_law_374 : decode code 374 = .ok (.aload_n 0, 1) := by decide +kernel
theorem d_w_law_375 : decode code 375 = .ok (.iload 4, 2) := by decide +kernel
theorem d_w_law_377 : decode code 377 = .ok (.iconst 1, 1) := by decide +kernel
theorem d_w_law_378 : decode code 378 = .ok (.iadd, 1) := by decide +kernel
theorem d_w_law_379 : decode code 379 = .ok (.iaload, 1) := by decide +kernel
theorem d_w_law_380 : decode code 380 = .ok (.aload_n 0, 1) := by decide +kernel
theorem d_w_law_381 : decode code 381 = .ok (.iload 4, 2) := by decide +kernel
theorem d_w_law_383 : decode code 383 = .ok (.iconst 2, 1) := by decide +kernel
theorem d_w_law_384 : decode code 384 = .ok (.iadd, 1) := by decide +kernel
theorem d_w_law_385 : decode code 385 = .ok (.iaload, 1) := by decide +kernel
theorem d_w_law_386 : decode code 386 = .ok (.aload_n 0, 1) := by decide +kernel
theorem d_w_law_387 : decode code 387 = .ok (.iload 4, 2) := by decide +kernel
theorem d_w_law_389 : decode code 389 = .ok (.iconst 3, 1) := by decide +kernel
theorem d_w_law_390 : decode code 390 = .ok (.iadd, 1) := by decide +kernel
theorem d_w_law_391 : decode code 391 = .ok (.iaload, 1) := by decide +kernel
theorem d_w_law_392 : decode code 392 = .ok (.aload_n 0, 1) := by decide +kernel
theorem d_w_law_393 : decode code 393 = .ok (.iload 4, 2) := by decide +kernel
theorem d_w_law_395 : decode code 395 = .ok (.iconst 4, 1) := by decide +kernel
theorem d_w_law_396 : decode code 396 = .ok (.iadd, 1) := by decide +kernel
theorem d_w_law_397 : decode code 397 = .ok (.iaload, 1) := by decide +kernel
theorem d_w_law_398 : decode code 398 = .ok (.aload_n 0, 1) := by decide +kernel
theorem d_w_law_399 : decode code 399 = .ok (.iload 4, 2) := by decide +kernel
theorem d_w_law_401 : decode code 401 = .ok (.iconst 5, 1) := by decide +kernel
theorem d_w_law_402 : decode code 402 = .ok (.iadd, 1) := by decide +kernel
theorem d_w_law_403 : decode code 403 = .ok (.iaload, 1) := by decide +kernel
theorem d_w_law_404 : decode code 404 = .ok (.invokevirtual 46, 3) := by decide +kernel
theorem d_w_law_407 : decode code 407 = .ok (.aload_n 2, 1) := by decide +kernel
theorem d_w_law_408 : decode code 408 = .ok (.aload_n 0, 1) := by decide +kernel
theorem d_w_law_409 : decode code 409 = .ok (.iload 4, 2) := by decide +kernel
theorem d_w_law_411 : decode code 411 = .ok (.iconst 1, 1) := by decide +kernel
theorem d_w_law_412 : decode code 412 = .ok (.iadd, 1) := by decide +kernel
theorem d_w_law_413 : decode code 413 = .ok (.iaload, 1) := by decide +kernel
theorem d_w_law_414 : decode code 414 = .ok (.aload_n 0, 1) := by decide +kernel
theorem d_w_law_415 : decode code 415 = .ok (.iload 4, 2) := by decide +kernel
theorem d_w_law_417 : decode code 417 = .ok (.iconst 2, 1) := by decide +kernel
theorem d_w_law_418 : decode code 418 = .ok (.iadd, 1) := by decide +kernel
theorem d_w_law_419 : decode code 419 = .ok (.iaload, 1) := by decide +kernel
theorem d_w_law_420 : decode code 420 = .ok (.aload_n 0, 1) := by decide +kernel
theorem d_w_law_421 : decode code 421 = .ok (.iload 4, 2) := by decide +kernel
theorem d_w_law_423 : decode code 423 = .ok (.iconst 3, 1) := by decide +kernel
theorem d_w_law_424 : decode code 424 = .ok (.iadd, 1) := by decide +kernel
theorem d_w_law_425 : decode code 425 = .ok (.iaload, 1) := by decide +kernel
theorem d_w_law_426 : decode code 426 = .ok (.aload_n 0, 1) := by decide +kernel
theorem d_w_law_427 : decode code 427 = .ok (.iload 4, 2) := by decide +kernel
theorem d_w_law_429 : decode code 429 = .ok (.iconst 4, 1) := by decide +kernel
theorem d_w_law_430 : decode code 430 = .ok (.iadd, 1) := by decide +kernel
theorem d_w_law_431 : decode code 431 = .ok (.iaload, 1) := by decide +kernel
theorem d_w_law_432 : decode code 432 = .ok (.aload_n 0, 1) := by decide +kernel
theorem d_w_law_433 : decode code 433 = .ok (.iload 4, 2) := by decide +kernel
theorem d_w_law_435 : decode code 435 = .ok (.iconst 5, 1) := by decide +kernel
theorem d_w_law_436 : decode code 436 = .ok (.iadd, 1) := by decide +kernel
theorem d_w_law_437 : decode code 437 = .ok (.iaload, 1) := by decide +kernel
theorem d_w_law_438 : decode code 438 = .ok (.invokevirtual 49, 3) := by decide +kernel
theorem d_w_law_441 : decode code 441 = .ok (.if_icmp .eq 490, 3) := by decide +kernel
theorem d_w_law_446 : decode code 446 = .ok (.aload_n 1, 1) := by decide +kernel
theorem d_w_law_447 : decode code 447 = .ok (.invokevirtual 50, 3) := by decide +kernel
theorem d_w_law_450 : decode code 450 = .ok (.aload_n 2, 1) := by decide +kernel
theorem d_w_law_451 : decode code 451 = .ok (.invokevirtual 54, 3) := by decide +kernel
theorem d_w_law_454 : decode code 454 = .ok (.if_icmp .eq 477, 3) := by decide +kernel
theorem d_w_law_459 : decode code 459 = .ok (.aload_n 1, 1) := by decide +kernel
theorem d_w_law_460 : decode code 460 = .ok (.aload_n 0, 1) := by decide +kernel
theorem d_w_law_461 : decode code 461 = .ok (.iload 4, 2) := by decide +kernel
theorem d_w_law_463 : decode code 463 = .ok (.iconst 1, 1) := by decide +kernel
theorem d_w_law_464 : decode code 464 = .ok (.iadd, 1) := by decide +kernel
theorem d_w_law_465 : decode code 465 = .ok (.iaload, 1) := by decide +kernel
theorem d_w_law_466 : decode code 466 = .ok (.aload_n 0, 1) := by decide +kernel
theorem d_w_law_467 : decode code 467 = .ok (.iload 4, 2) := by decide +kernel
theorem d_w_law_469 : decode code 469 = .ok (.iconst 2, 1) := by decide +kernel
theorem d_w_law_470 : decode code 470 = .ok (.iadd, 1) := by decide +kernel
theorem d_w_law_471 : decode code 471 = .ok (.iaload, 1) := by decide +kernel
theorem d_w_law_472 : decode code 472 = .ok (.aload_n 0, 1) := by decide +kernel
theorem d_w_law_473 : decode code 473 = .ok (.iload 4, 2) := by decide +kernel
theorem d_w_law_475 : decode code 475 = .ok (.iconst 3, 1) := by decide +kernel
theorem d_w_law_476 : decode code 476 = .ok (.iadd, 1) := by decide +kernel
theorem d_w_law_477 : decode code 477 = .ok (.iaload, 1) := by decide +kernel
theorem d_w_law_478 : decode code 478 = .ok (.ifCond .eq 7, 3) := by decide +kernel
theorem d_w_law_481 : decode code 481 = .ok (.iconst 1, 1) := by decide +kernel
theorem d_w_law_482 : decode code 482 = .ok (.goto 4, 3) := by decide +kernel
theorem d_w_law_485 : decode code 485 = .ok (.iconst 0, 1) := by decide +kernel
theorem d_w_law_486 : decode code 486 = .ok (.invokevirtual 55, 3) := by decide +kernel
theorem d_w_law_489 : decode code 489 = .ok (.aload_n 2, 1) := by decide +kernel
theorem d_w_law_490 : decode code 490 = .ok (.aload_n 0, 1) := by decide +kernel
theorem d_w_law_491 : decode code 491 = .ok (.iload 4, 2) := by decide +kernel
theorem d_w_law_493 : decode code 493 = .ok (.iconst 1, 1) := by decide +kernel
theorem d_w_law_494 : decode code 494 = .ok (.iadd, 1) := by decide +kernel
theorem d_w_law_495 : decode code 495 = .ok (.iaload, 1) := by decide +kernel
theorem d_w_law_496 : decode code 496 = .ok (.aload_n 0, 1) := by decide +kernel
theorem d_w_law_497 : decode code 497 = .ok (.iload 4, 2) := by decide +kernel
theorem d_w_law_499 : decode code 499 = .ok (.iconst 2, 1) := by decide +kernel
theorem d_w_law_500 : decode code 500 = .ok (.iadd, 1) := by decide +kernel
theorem d_w_law_501 : decode code 501 = .ok (.iaload, 1) := by decide +kernel
theorem d_w_law_502 : decode code 502 = .ok (.aload_n 0, 1) := by decide +kernel
theorem d_w_law_503 : decode code 503 = .ok (.iload 4, 2) := by decide +kernel
theorem d_w_law_505 : decode code 505 = .ok (.iconst 3, 1) := by decide +kernel
theorem d_w_law_506 : decode code 506 = .ok (.iadd, 1) := by decide +kernel
theorem d_w_law_507 : decode code 507 = .ok (.iaload, 1) := by decide +kernel
theorem d_w_law_508 : decode code 508 = .ok (.ifCond .eq 7, 3) := by decide +kernel
theorem d_w_law_511 : decode code 511 = .ok (.iconst 1, 1) := by decide +kernel
theorem d_w_law_512 : decode code 512 = .ok (.goto 4, 3) := by decide +kernel
theorem d_w_law_515 : decode code 515 = .ok (.iconst 0, 1) := by decide +kernel
theorem d_w_law_516 : decode code 516 = .ok (.invokevirtual 59, 3) := by decide +kernel
theorem d_w_law_519 : decode code 519 = .ok (.if_icmp .eq 412, 3) := by decide +kernel
theorem d_w_law_524 : decode code 524 = .ok (.aload_n 1, 1) := by decide +kernel
theorem d_w_law_525 : decode code 525 = .ok (.aload_n 0, 1) := by decide +kernel
theorem d_w_law_526 : decode code 526 = .ok (.iload 4, 2) := by decide +kernel
theorem d_w_law_528 : decode code 528 = .ok (.iconst 1, 1) := by decide +kernel
theorem d_w_law_529 : decode code 529 = .ok (.iadd, 1) := by decide +kernel
theorem d_w_law_530 : decode code 530 = .ok (.iaload, 1) := by decide +kernel
theorem d_w_law_531 : decode code 531 = .ok (.aload_n 0, 1) := by decide +kernel
theorem d_w_law_532 : decode code 532 = .ok (.iload 4, 2) := by decide +kernel
theorem d_w_law_534 : decode code 534 = .ok (.iconst 2, 1) := by decide +kernel
theorem d_w_law_535 : decode code 535 = .ok (.iadd, 1) := by decide +kernel
theorem d_w_law_536 : decode code 536 = .ok (.iaload, 1) := by decide +kernel
theorem d_w_law_537 : decode code 537 = .ok (.invokevirtual 60, 3) := by decide +kernel
theorem d_w_law_540 : decode code 540 = .ok (.aload_n 2, 1) := by decide +kernel
theorem d_w_law_541 : decode code 541 = .ok (.aload_n 0, 1) := by decide +kernel
theorem d_w_law_542 : decode code 542 = .ok (.iload 4, 2) := by decide +kernel
theorem d_w_law_544 : decode code 544 = .ok (.iconst 1, 1) := by decide +kernel
theorem d_w_law_545 : decode code 545 = .ok (.iadd, 1) := by decide +kernel
theorem d_w_law_546 : decode code 546 = .ok (.iaload, 1) := by decide +kernel
theorem d_w_law_547 : decode code 547 = .ok (.aload_n 0, 1) := by decide +kernel
theorem d_w_law_548 : decode code 548 = .ok (.iload 4, 2) := by decide +kernel
theorem d_w_law_550 : decode code 550 = .ok (.iconst 2, 1) := by decide +kernel
theorem d_w_law_551 : decode code 551 = .ok (.iadd, 1) := by decide +kernel
theorem d_w_law_552 : decode code 552 = .ok (.iaload, 1) := by decide +kernel
theorem d_w_law_553 : decode code 553 = .ok (.invokevirtual 63, 3) := by decide +kernel
theorem d_w_law_556 : decode code 556 = .ok (.if_icmp .eq 375, 3) := by decide +kernel
theorem d_w_law_561 : decode code 561 = .ok (.aload_n 1, 1) := by decide +kernel
theorem d_w_law_562 : decode code 562 = .ok (.aload_n 0, 1) := by decide +kernel
theorem d_w_law_563 : decode code 563 = .ok (.iload 4, 2) := by decide +kernel
theorem d_w_law_565 : decode code 565 = .ok (.iconst 1, 1) := by decide +kernel
theorem d_w_law_566 : decode code 566 = .ok (.iadd, 1) := by decide +kernel
theorem d_w_law_567 : decode code 567 = .ok (.iaload, 1) := by decide +kernel
theorem d_w_law_568 : decode code 568 = .ok (.aload_n 0, 1) := by decide +kernel
theorem d_w_law_569 : decode code 569 = .ok (.iload 4, 2) := by decide +kernel
theorem d_w_law_571 : decode code 571 = .ok (.iconst 2, 1) := by decide +kernel
theorem d_w_law_572 : decode code 572 = .ok (.iadd, 1) := by decide +kernel
theorem d_w_law_573 : decode code 573 = .ok (.iaload, 1) := by decide +kernel
theorem d_w_law_574 : decode code 574 = .ok (.invokevirtual 64, 3) := by decide +kernel
theorem d_w_law_577 : decode code 577 = .ok (.aload_n 2, 1) := by decide +kernel
theorem d_w_law_578 : decode code 578 = .ok (.aload_n 0, 1) := by decide +kernel
theorem d_w_law_579 : decode code 579 = .ok (.iload 4, 2) := by decide +kernel
theorem d_w_law_581 : decode code 581 = .ok (.iconst 1, 1) := by decide +kernel
theorem d_w_law_582 : decode code 582 = .ok (.iadd, 1) := by decide +kernel
theorem d_w_law_583 : decode code 583 = .ok (.iaload, 1) := by decide +kernel
theorem d_w_law_584 : decode code 584 = .ok (.aload_n 0, 1) := by decide +kernel
theorem d_w_law_585 : decode code 585 = .ok (.iload 4, 2) := by decide +kernel
theorem d_w_law_587 : decode code 587 = .ok (.iconst 2, 1) := by decide +kernel
theorem d_w_law_588 : decode code 588 = .ok (.iadd, 1) := by decide +kernel
theorem d_w_law_589 : decode code 589 = .ok (.iaload, 1) := by decide +kernel
theorem d_w_law_590 : decode code 590 = .ok (.invokevirtual 67, 3) := by decide +kernel
theorem d_w_law_593 : decode code 593 = .ok (.if_icmp .eq 338, 3) := by decide +kernel
theorem d_w_law_598 : decode code 598 = .ok (.aload_n 1, 1) := by decide +kernel
theorem d_w_law_599 : decode code 599 = .ok (.aload_n 0, 1) := by decide +kernel
theorem d_w_law_600 : decode code 600 = .ok (.iload 4, 2) := by decide +kernel
theorem d_w_law_602 : decode code 602 = .ok (.iconst 1, 1) := by decide +kernel
theorem d_w_law_603 : decode code 603 = .ok (.iadd, 1) := by decide +kernel
theorem d_w_law_604 : decode code 604 = .ok (.iaload, 1) := by decide +kernel
theorem d_w_law_605 : decode code 605 = .ok (.aload_n 0, 1) := by decide +kernel
theorem d_w_law_606 : decode code 606 = .ok (.iload 4, 2) := by decide +kernel
theorem d_w_law_608 : decode code 608 = .ok (.iconst 2, 1) := by decide +kernel
theorem d_w_law_609 : decode code 609 = .ok (.iadd, 1) := by decide +kernel
theorem d_w_law_610 : decode code 610 = .ok (.iaload, 1) := by decide +kernel
theorem d_w_law_611 : decode code 611 = .ok (.invokevirtual 68, 3) := by decide +kernel
theorem d_w_law_614 : decode code 614 = .ok (.aload_n 2, 1) := by decide +kernel
theorem d_w_law_615 : decode code 615 = .ok (.aload_n 0, 1) := by decide +kernel
theorem d_w_law_616 : decode code 616 = .ok (.iload 4, 2) := by decide +kernel
theorem d_w_law_618 : decode code 618 = .ok (.iconst 1, 1) := by decide +kernel
theorem d_w_law_619 : decode code 619 = .ok (.iadd, 1) := by decide +kernel
theorem d_w_law_620 : decode code 620 = .ok (.iaload, 1) := by decide +kernel
theorem d_w_law_621 : decode code 621 = .ok (.aload_n 0, 1) := by decide +kernel
theorem d_w_law_622 : decode code 622 = .ok (.iload 4, 2) := by decide +kernel
theorem d_w_law_624 : decode code 624 = .ok (.iconst 2, 1) := by decide +kernel
theorem d_w_law_625 : decode code 625 = .ok (.iadd, 1) := by decide +kernel
theorem d_w_law_626 : decode code 626 = .ok (.iaload, 1) := by decide +kernel
theorem d_w_law_627 : decode code 627 = .ok (.invokevirtual 71, 3) := by decide +kernel
theorem d_w_law_630 : decode code 630 = .ok (.if_icmp .eq 301, 3) := by decide +kernel
theorem d_w_law_635 : decode code 635 = .ok (.aload_n 1, 1) := by decide +kernel
theorem d_w_law_636 : decode code 636 = .ok (.aload_n 0, 1) := by decide +kernel
theorem d_w_law_637 : decode code 637 = .ok (.iload 4, 2) := by decide +kernel
theorem d_w_law_639 : decode code 639 = .ok (.iconst 1, 1) := by decide +kernel
theorem d_w_law_640 : decode code 640 = .ok (.iadd, 1) := by decide +kernel
theorem d_w_law_641 : decode code 641 = .ok (.iaload, 1) := by decide +kernel
theorem d_w_law_642 : decode code 642 = .ok (.aload_n 0, 1) := by decide +kernel
theorem d_w_law_643 : decode code 643 = .ok (.iload 4, 2) := by decide +kernel
theorem d_w_law_645 : decode code 645 = .ok (.iconst 2, 1) := by decide +kernel
theorem d_w_law_646 : decode code 646 = .ok (.iadd, 1) := by decide +kernel
theorem d_w_law_647 : decode code 647 = .ok (.iaload, 1) := by decide +kernel
theorem d_w_law_648 : decode code 648 = .ok (.invokevirtual 72, 3) := by decide +kernel
theorem d_w_law_651 : decode code 651 = .ok (.aload_n 2, 1) := by decide +kernel
theorem d_w_law_652 : decode code 652 = .ok (.aload_n 0, 1) := by decide +kernel
theorem d_w_law_653 : decode code 653 = .ok (.iload 4, 2) := by decide +kernel
theorem d_w_law_655 : decode code 655 = .ok (.iconst 1, 1) := by decide +kernel
theorem d_w_law_656 : decode code 656 = .ok (.iadd, 1) := by decide +kernel
theorem d_w_law_657 : decode code 657 = .ok (.iaload, 1) := by decide +kernel
theorem d_w_law_658 : decode code 658 = .ok (.aload_n 0, 1) := by decide +kernel
theorem d_w_law_659 : decode code 659 = .ok (.iload 4, 2) := by decide +kernel
theorem d_w_law_661 : decode code 661 = .ok (.iconst 2, 1) := by decide +kernel
theorem d_w_law_662 : decode code 662 = .ok (.iadd, 1) := by decide +kernel
theorem d_w_law_663 : decode code 663 = .ok (.iaload, 1) := by decide +kernel
theorem d_w_law_664 : decode code 664 = .ok (.invokevirtual 75, 3) := by decide +kernel
theorem d_w_law_667 : decode code 667 = .ok (.if_icmp .eq 264, 3) := by decide +kernel
theorem d_w_law_672 : decode code 672 = .ok (.aload_n 1, 1) := by decide +kernel
theorem d_w_law_673 : decode code 673 = .ok (.aload_n 0, 1) := by decide +kernel
theorem d_w_law_674 : decode code 674 = .ok (.iload 4, 2) := by decide +kernel
theorem d_w_law_676 : decode code 676 = .ok (.iconst 1, 1) := by decide +kernel
theorem d_w_law_677 : decode code 677 = .ok (.iadd, 1) := by decide +kernel
theorem d_w_law_678 : decode code 678 = .ok (.iaload, 1) := by decide +kernel
theorem d_w_law_679 : decode code 679 = .ok (.aload_n 0, 1) := by decide +kernel
theorem d_w_law_680 : decode code 680 = .ok (.iload 4, 2) := by decide +kernel
theorem d_w_law_682 : decode code 682 = .ok (.iconst 2, 1) := by decide +kernel
theorem d_w_law_683 : decode code 683 = .ok (.iadd, 1) := by decide +kernel
theorem d_w_law_684 : decode code 684 = .ok (.iaload, 1) := by decide +kernel
theorem d_w_law_685 : decode code 685 = .ok (.aload_n 0, 1) := by decide +kernel
theorem d_w_law_686 : decode code 686 = .ok (.iload 4, 2) := by decide +kernel
theorem d_w_law_688 : decode code 688 = .ok (.iconst 3, 1) := by decide +kernel
theorem d_w_law_689 : decode code 689 = .ok (.iadd, 1) := by decide +kernel
theorem d_w_law_690 : decode code 690 = .ok (.iaload, 1) := by decide +kernel
theorem d_w_law_691 : decode code 691 = .ok (.aload_n 0, 1) := by decide +kernel
theorem d_w_law_692 : decode code 692 = .ok (.iload 4, 2) := by decide +kernel
theorem d_w_law_694 : decode code 694 = .ok (.iconst 4, 1) := by decide +kernel
theorem d_w_law_695 : decode code 695 = .ok (.iadd, 1) := by decide +kernel
theorem d_w_law_696 : decode code 696 = .ok (.iaload, 1) := by decide +kernel
theorem d_w_law_697 : decode code 697 = .ok (.invokevirtual 76, 3) := by decide +kernel
theorem d_w_law_700 : decode code 700 = .ok (.aload_n 2, 1) := by decide +kernel
theorem d_w_law_701 : decode code 701 = .ok (.aload_n 0, 1) := by decide +kernel
theorem d_w_law_702 : decode code 702 = .ok (.iload 4, 2) := by decide +kernel
theorem d_w_law_704 : decode code 704 = .ok (.iconst 1, 1) := by decide +kernel
theorem d_w_law_705 : decode code 705 = .ok (.iadd, 1) := by decide +kernel
theorem d_w_law_706 : decode code 706 = .ok (.iaload, 1) := by decide +kernel
theorem d_w_law_707 : decode code 707 = .ok (.aload_n 0, 1) := by decide +kernel
theorem d_w_law_708 : decode code 708 = .ok (.iload 4, 2) := by decide +kernel
theorem d_w_law_710 : decode code 710 = .ok (.iconst 2, 1) := by decide +kernel
theorem d_w_law_711 : decode code 711 = .ok (.iadd, 1) := by decide +kernel
theorem d_w_law_712 : decode code 712 = .ok (.iaload, 1) := by decide +kernel
theorem d_w_law_713 : decode code 713 = .ok (.aload_n 0, 1) := by decide +kernel
theorem d_w_law_714 : decode code 714 = .ok (.iload 4, 2) := by decide +kernel
theorem d_w_law_716 : decode code 716 = .ok (.iconst 3, 1) := by decide +kernel
theorem d_w_law_717 : decode code 717 = .ok (.iadd, 1) := by decide +kernel
theorem d_w_law_718 : decode code 718 = .ok (.iaload, 1) := by decide +kernel
theorem d_w_law_719 : decode code 719 = .ok (.aload_n 0, 1) := by decide +kernel
theorem d_w_law_720 : decode code 720 = .ok (.iload 4, 2) := by decide +kernel
theorem d_w_law_722 : decode code 722 = .ok (.iconst 4, 1) := by decide +kernel
theorem d_w_law_723 : decode code 723 = .ok (.iadd, 1) := by decide +kernel
theorem d_w_law_724 : decode code 724 = .ok (.iaload, 1) := by decide +kernel
theorem d_w_law_725 : decode code 725 = .ok (.invokevirtual 79, 3) := by decide +kernel
theorem d_w_law_728 : decode code 728 = .ok (.if_icmp .eq 203, 3) := by decide +kernel
theorem d_w_law_733 : decode code 733 = .ok (.aload_n 1, 1) := by decide +kernel
theorem d_w_law_734 : decode code 734 = .ok (.aload_n 0, 1) := by decide +kernel
theorem d_w_law_735 : decode code 735 = .ok (.iload 4, 2) := by decide +kernel
theorem d_w_law_737 : decode code 737 = .ok (.iconst 1, 1) := by decide +kernel
theorem d_w_law_738 : decode code 738 = .ok (.iadd, 1) := by decide +kernel
theorem d_w_law_739 : decode code 739 = .ok (.iaload, 1) := by decide +kernel
theorem d_w_law_740 : decode code 740 = .ok (.aload_n 0, 1) := by decide +kernel
theorem d_w_law_741 : decode code 741 = .ok (.iload 4, 2) := by decide +kernel
theorem d_w_law_743 : decode code 743 = .ok (.iconst 2, 1) := by decide +kernel
theorem d_w_law_744 : decode code 744 = .ok (.iadd, 1) := by decide +kernel
theorem d_w_law_745 : decode code 745 = .ok (.iaload, 1) := by decide +kernel
theorem d_w_law_746 : decode code 746 = .ok (.aload_n 3, 1) := by decide +kernel
theorem d_w_law_747 : decode code 747 = .ok (.invokestatic 80, 3) := by decide +kernel
theorem d_w_law_750 : decode code 750 = .ok (.istore 5, 2) := by decide +kernel
theorem d_w_law_752 : decode code 752 = .ok (.aload_n 2, 1) := by decide +kernel
theorem d_w_law_753 : decode code 753 = .ok (.aload_n 0, 1) := by decide +kernel
theorem d_w_law_754 : decode code 754 = .ok (.iload 4, 2) := by decide +kernel
theorem d_w_law_756 : decode code 756 = .ok (.iconst 1, 1) := by decide +kernel
theorem d_w_law_757 : decode code 757 = .ok (.iadd, 1) := by decide +kernel
theorem d_w_law_758 : decode code 758 = .ok (.iaload, 1) := by decide +kernel
theorem d_w_law_759 : decode code 759 = .ok (.aload_n 0, 1) := by decide +kernel
theorem d_w_law_760 : decode code 760 = .ok (.iload 4, 2) := by decide +kernel
theorem d_w_law_762 : decode code 762 = .ok (.iconst 2, 1) := by decide +kernel
theorem d_w_law_763 : decode code 763 = .ok (.iadd, 1) := by decide +kernel
theorem d_w_law_764 : decode code 764 = .ok (.iaload, 1) := by decide +kernel
theorem d_w_law_765 : decode code 765 = .ok (.invokevirtual 85, 3) := by decide +kernel
theorem d_w_law_768 : decode code 768 = .ok (.istore 6, 2) := by decide +kernel
theorem d_w_law_770 : decode code 770 = .ok (.aload_n 2, 1) := by decide +kernel
theorem d_w_law_771 : decode code 771 = .ok (.invokevirtual 86, 3) := by decide +kernel
theorem d_w_law_774 : decode code 774 = .ok (.iload 5, 2) := by decide +kernel
theorem d_w_law_776 : decode code 776 = .ok (.if_icmp .eq 5, 3) := by decide +kernel
theorem d_w_law_781 : decode code 781 = .ok (.iload 5, 2) := by decide +kernel
theorem d_w_law_783 : decode code 783 = .ok (.ifCond .ne 15, 3) := by decide +kernel
theorem d_w_law_798 : decode code 798 = .ok (.goto 133, 3) := by decide +kernel
theorem d_w_law_801 : decode code 801 = .ok (.aload_n 1, 1) := by decide +kernel
theorem d_w_law_802 : decode code 802 = .ok (.aload_n 0, 1) := by decide +kernel
theorem d_w_law_803 : decode code 803 = .ok (.iload 4, 2) := by decide +kernel
theorem d_w_law_805 : decode code 805 = .ok (.iconst 1, 1) := by decide +kernel
theorem d_w_law_806 : decode code 806 = .ok (.iadd, 1) := by decide +kernel
theorem d_w_law_807 : decode code 807 = .ok (.iaload, 1) := by decide +kernel
theorem d_w_law_808 : decode code 808 = .ok (.invokevirtual 89, 3) := by decide +kernel
theorem d_w_law_811 : decode code 811 = .ok (.aload_n 2, 1) := by decide +kernel
theorem d_w_law_812 : decode code 812 = .ok (.aload_n 0, 1) := by decide +kernel
theorem d_w_law_813 : decode code 813 = .ok (.iload 4, 2) := by decide +kernel
theorem d_w_law_815 : decode code 815 = .ok (.iconst 1, 1) := by decide +kernel
theorem d_w_law_816 : decode code 816 = .ok (.iadd, 1) := by decide +kernel
theorem d_w_law_817 : decode code 817 = .ok (.iaload, 1) := by decide +kernel
theorem d_w_law_818 : decode code 818 = .ok (.invokevirtual 92, 3) := by decide +kernel
theorem d_w_law_821 : decode code 821 = .ok (.if_icmp .eq 110, 3) := by decide +kernel
theorem d_w_law_826 : decode code 826 = .ok (.aload_n 1, 1) := by decide +kernel
theorem d_w_law_827 : decode code 827 = .ok (.aload_n 0, 1) := by decide +kernel
theorem d_w_law_828 : decode code 828 = .ok (.iload 4, 2) := by decide +kernel
theorem d_w_law_830 : decode code 830 = .ok (.iconst 1, 1) := by decide +kernel
theorem d_w_law_831 : decode code 831 = .ok (.iadd, 1) := by decide +kernel
theorem d_w_law_832 : decode code 832 = .ok (.iaload, 1) := by decide +kernel
theorem d_w_law_833 : decode code 833 = .ok (.aload_n 0, 1) := by decide +kernel
theorem d_w_law_834 : decode code 834 = .ok (.iload 4, 2) := by decide +kernel
theorem d_w_law_836 : decode code 836 = .ok (.iconst 2, 1) := by decide +kernel
theorem d_w_law_837 : decode code 837 = .ok (.iadd, 1) := by decide +kernel
theorem d_w_law_838 : decode code 838 = .ok (.iaload, 1) := by decide +kernel
theorem d_w_law_839 : decode code 839 = .ok (.invokevirtual 93, 3) := by decide +kernel
theorem d_w_law_842 : decode code 842 = .ok (.aload_n 2, 1) := by decide +kernel
theorem d_w_law_843 : decode code 843 = .ok (.aload_n 0, 1) := by decide +kernel
theorem d_w_law_844 : decode code 844 = .ok (.iload 4, 2) := by decide +kernel
theorem d_w_law_846 : decode code 846 = .ok (.iconst 1, 1) := by decide +kernel
theorem d_w_law_847 : decode code 847 = .ok (.iadd, 1) := by decide +kernel
theorem d_w_law_848 : decode code 848 = .ok (.iaload, 1) := by decide +kernel
theorem d_w_law_849 : decode code 849 = .ok (.aload_n 0, 1) := by decide +kernel
theorem d_w_law_850 : decode code 850 = .ok (.iload 4, 2) := by decide +kernel
theorem d_w_law_852 : decode code 852 = .ok (.iconst 2, 1) := by decide +kernel
theorem d_w_law_853 : decode code 853 = .ok (.iadd, 1) := by decide +kernel
theorem d_w_law_854 : decode code 854 = .ok (.iaload, 1) := by decide +kernel
theorem d_w_law_855 : decode code 855 = .ok (.invokevirtual 96, 3) := by decide +kernel
theorem d_w_law_858 : decode code 858 = .ok (.if_icmp .eq 73, 3) := by decide +kernel
theorem d_w_law_863 : decode code 863 = .ok (.aload_n 1, 1) := by decide +kernel
theorem d_w_law_864 : decode code 864 = .ok (.aload_n 0, 1) := by decide +kernel
theorem d_w_law_865 : decode code 865 = .ok (.iload 4, 2) := by decide +kernel
theorem d_w_law_867 : decode code 867 = .ok (.iconst 1, 1) := by decide +kernel
theorem d_w_law_868 : decode code 868 = .ok (.iadd, 1) := by decide +kernel
theorem d_w_law_869 : decode code 869 = .ok (.iaload, 1) := by decide +kernel
theorem d_w_law_870 : decode code 870 = .ok (.aload_n 0, 1) := by decide +kernel
theorem d_w_law_871 : decode code 871 = .ok (.iload 4, 2) := by decide +kernel
theorem d_w_law_873 : decode code 873 = .ok (.iconst 2, 1) := by decide +kernel
theorem d_w_law_874 : decode code 874 = .ok (.iadd, 1) := by decide +kernel
theorem d_w_law_875 : decode code 875 = .ok (.iaload, 1) := by decide +kernel
theorem d_w_law_876 : decode code 876 = .ok (.aload_n 3, 1) := by decide +kernel
theorem d_w_law_877 : decode code 877 = .ok (.invokestatic 97, 3) := by decide +kernel
theorem d_w_law_880 : decode code 880 = .ok (.istore 5, 2) := by decide +kernel
theorem d_w_law_882 : decode code 882 = .ok (.aload_n 2, 1) := by decide +kernel
theorem d_w_law_883 : decode code 883 = .ok (.aload_n 0, 1) := by decide +kernel
theorem d_w_law_884 : decode code 884 = .ok (.iload 4, 2) := by decide +kernel
theorem d_w_law_886 : decode code 886 = .ok (.iconst 1, 1) := by decide +kernel
theorem d_w_law_887 : decode code 887 = .ok (.iadd, 1) := by decide +kernel
theorem d_w_law_888 : decode code 888 = .ok (.iaload, 1) := by decide +kernel
theorem d_w_law_889 : decode code 889 = .ok (.aload_n 0, 1) := by decide +kernel
theorem d_w_law_890 : decode code 890 = .ok (.iload 4, 2) := by decide +kernel
theorem d_w_law_892 : decode code 892 = .ok (.iconst 2, 1) := by decide +kernel
theorem d_w_law_893 : decode code 893 = .ok (.iadd, 1) := by decide +kernel
theorem d_w_law_894 : decode code 894 = .ok (.iaload, 1) := by decide +kernel
theorem d_w_law_895 : decode code 895 = .ok (.invokevirtual 99, 3) := by decide +kernel
theorem d_w_law_898 : decode code 898 = .ok (.istore 6, 2) := by decide +kernel
theorem d_w_law_900 : decode code 900 = .ok (.aload_n 2, 1) := by decide +kernel
theorem d_w_law_901 : decode code 901 = .ok (.invokevirtual 86, 3) := by decide +kernel
theorem d_w_law_904 : decode code 904 = .ok (.iload 5, 2) := by decide +kernel
theorem d_w_law_906 : decode code 906 = .ok (.if_icmp .eq 5, 3) := by decide +kernel
theorem d_w_law_911 : decode code 911 = .ok (.iload 5, 2) := by decide +kernel
theorem d_w_law_913 : decode code 913 = .ok (.ifCond .ne 15, 3) := by decide +kernel
theorem d_w_law_928 : decode code 928 = .ok (.goto 3, 3) := by decide +kernel
theorem d_w_law_931 : decode code 931 = .ok (.iinc 4 6, 3) := by decide +kernel
theorem d_w_law_934 : decode code 934 = .ok (.goto (-911), 3) := by decide +kernel
theorem d_w_law_937 : decode code 937 = .ok (.iconst 1, 1) := by decide +kernel
theorem d_w_law_938 : decode code 938 = .ok (.ireturn, 1) := by decide +kernel
end
section
/-! THE CLAIM OUT OF ONE WALK OF THE LAW'S BODY. Your part is whole_start (and what it stands on); all else here is the same for every law, but numbers. -/
def R_law : String := "RightsLimitLaw"
def lw_P (b : Addr) (xs : List Int32) (args : Array Value) (s : State) : Prop := args = #[.ref b] ∧ s.IntsAt b xs ∧ xs.length ≤ 6 ∧ (Jvm.Cond.and given_1 narrow_1).before args s = true
def lw_Q (_ : Array Value) (s : State) (o : Outcome) (t : State) : Prop := o = .returned (some (.int 1)) ∧ Framed s o t [] 65 10005
def lw_Z (below : List Frame) (a : Array Value) (s : State) : State → Prop := fun t => ∃ o, t.status = .running ∧ Ended t below o ∧ lw_Q a s o t
/-- the law's own end, with 1 on the stack, nothing written that was there before, its room as the claim has it -/
theorem lw_ret {p : Program} {l : Launch} {e : Env} {s : State} {m : MethodId} {below : List Frame} {meth : Method} {c : Code} {b : Nat} (hx : p.tables.exec = Jvm.exec) (hb : c.code = code) (hr : meth.sig.returnType = ret) (hlocks : meth.locks = false) {pc : Nat} {H : Heap} {ls : Array Slot} (hdg : decode code pc = .ok (.ireturn, 1)) : W p l e room_1 s m #[Value.ref b] below meth c H [] 65 10005 (lw_Z below #[Value.ref b] s) (F0 m pc ls [.int 1]) := by
  intro T hT X
  obtain ⟨fs, hret, hrun, hended, hW, hframe⟩ := X.leave (v := some (.int 1)) (hlocks := hlocks) (fun h => by rw [hr] at h; cases h)
  have hmeth' : T.vm.method? m = some meth := X.method'
  refine ⟨T.setFrames fs, ?_, .returned (some (.int 1)), hrun, hended, rfl, ⟨_, rfl⟩, hW, hframe⟩
  jvm_step X.here [X.here.top, hx, hb, hdg, hmeth', hr, ret, narrow_b1]
  (try refine ⟨rfl, ?_⟩); (try refine ⟨rfl, ?_⟩)
  first | (intro acts; rw [hret _ acts rfl rfl rfl]) | rw [hret _ _ rfl rfl rfl]
  exact Steps.refl _
/-- what holds at the law's entry: the machine, the code, the tables' words (any of lw_tbl by 'hts w (by decide +kernel)'), the script of L ints xs at the cell b, what the Statement gives of the start (any of its parts by flat_of_before) -/
def lw_At (p : Program) (s : State) (m : MethodId) (meth : Method) (c : Code) (b L : Nat) (xs : Nat → Int32) : Prop :=
  p.tables.exec = Jvm.exec ∧ c.code = code ∧ meth.sig.returnType = ret ∧ c.maxLocals = 7 ∧ s.vm.findClass R_law = some m.cls ∧ (∀ w ∈ lw_tbl, w.before #[Value.ref b] s = true) ∧ va_X b L xs s s.heap ∧ b < s.heap.size ∧ meth.locks = false ∧ (Jvm.Cond.and given_1 narrow_1).before #[Value.ref b] s = true
section RLL
variable {p : Program} {l : Launch} {e : Env} {R : Room} {s : State} {m : MethodId} {args : Array Value} {below : List Frame} {meth : Method} {c : Code} {H H0 : Heap} {locs : List Loc} {cells slots : Nat} {Q : State → Prop}
variable {pc : Nat} {ls : Array Slot} {rest st0 : List Value} {av : List Value} {A0 : Nat → Prop}
variable {D : va_G} {cl : List vw_C} {w1 w2 wb : va_W} {S : Type} {w' : S → va_W}
theorem rl_calliL {post : Int32 → S → Prop} (hP : va_P D cl ((w1 ++ wb) ++ w2) H) (hD : va_D A0 ((w1 ++ wb) ++ w2)) (hS : va_S A0 H0 H locs) (hA : ∀ q, H0.size ≤ q → A0 q)
    (hr : va_Run p l e R s m args below meth c H locs cells slots 0 0 (F0 m pc ls st0) rest (va_Qi post (fun u t => va_P D cl (w' u) t.heap ∧ va_D (va_A w1 H.size) (w' u)) (va_A w1 H.size) av.toArray) (va_A w1 H.size))
    (kk : ∀ (r : Int32) (u : S) (H1 : Heap) (locs1 : List Loc), post r u → va_P D cl ((w' u ++ wb) ++ w2) H1 → va_D A0 ((w' u ++ wb) ++ w2) → va_S A0 H0 H1 locs1 → W p l e R s m args below meth c H1 locs1 cells slots Q (F0 m (pc + 3) ls (.int r :: rest))) : W p l e R s m args below meth c H locs cells slots Q (F0 m pc ls st0) :=
  rl_calli (w2 := wb ++ w2) (by rw [← List.append_assoc]; exact hP) (by rw [← List.append_assoc]; exact hD) hS hA hr (fun r u H1 locs1 h1 h2 h3 h4 => kk r u H1 locs1 h1 (by rw [List.append_assoc]; exact h2) (by rw [List.append_assoc]; exact h3) h4)
theorem rl_calliR {post : Int32 → S → Prop} (hP : va_P D cl (wb ++ w1) H) (hD : va_D A0 (wb ++ w1)) (hS : va_S A0 H0 H locs) (hA : ∀ q, H0.size ≤ q → A0 q)
    (hr : va_Run p l e R s m args below meth c H locs cells slots 0 0 (F0 m pc ls st0) rest (va_Qi post (fun u t => va_P D cl (w' u) t.heap ∧ va_D (va_A w1 H.size) (w' u)) (va_A w1 H.size) av.toArray) (va_A w1 H.size))
    (kk : ∀ (r : Int32) (u : S) (H1 : Heap) (locs1 : List Loc), post r u → va_P D cl (wb ++ w' u) H1 → va_D A0 (wb ++ w' u) → va_S A0 H0 H1 locs1 → W p l e R s m args below meth c H1 locs1 cells slots Q (F0 m (pc + 3) ls (.int r :: rest))) : W p l e R s m args below meth c H locs cells slots Q (F0 m pc ls st0) :=
  rl_calli (w2 := wb) (rl_P.swap hP) (rl_D.swap hD) hS hA hr (fun r u H1 locs1 h1 h2 h3 h4 => kk r u H1 locs1 h1 (rl_P.swap h2) (rl_D.swap h3) h4)
end RLL
def lw_I (p : Program) (l : Launch) (s : State) (m : MethodId) (meth : Method) (c : Code) (b : Nat) (xs : Nat → Int32) (D : va_G) (a a2 : Nat → Nat) (kI kZ kL : ClassId) (q : Nat) (H : Heap) (locs : List Loc) (ls : Array Slot) : Prop :=
  p.tables.exec = Jvm.exec ∧ c.code = code ∧ meth.sig.returnType = ret ∧ c.maxLocals = 7 ∧ s.vm.findClass "RightsLimitLaw" = some m.cls ∧ (∀ w ∈ rl_G, w.before #[Value.ref b] s = true) ∧ meth.locks = false ∧ va_X b 6 xs s s.heap ∧ b < s.heap.size ∧ va_K D rl_cl (rl_t3 kI kZ kL) s ∧ rl_Z s ∧ va_Nw (.castable rl_NSE rl_NSE) s ∧ l.stackTraces = false ∧ va_P D rl_cl ((rl_w a kI kZ rl_F0 ++ rl_O kL q (fun _ => 0)) ++ rm_w a2 kI kZ rm_F0) H ∧ va_D (fun q : Nat => s.heap.size ≤ q) ((rl_w a kI kZ rl_F0 ++ rl_O kL q (fun _ => 0)) ++ rm_w a2 kI kZ rm_F0) ∧ va_S (fun q : Nat => s.heap.size ≤ q) s.heap H locs ∧ lv_has ls 7 [(4, .int 0), (3, .ref q), (2, .ref (a2 0)), (1, .ref (a 0)), (0, .ref b)]
set_option maxHeartbeats 4000000 in
set_option maxRecDepth 100000 in
theorem law_out {p : Program} {l : Launch} {e : Env} {s : State} {m : MethodId} {below : List Frame} {meth : Method} {c : Code} {b : Nat} {xs : Nat → Int32} {L : Nat} {i : Int32} {H : Heap} {locs : List Loc} {ls : Array Slot} {cells slots : Nat} (hx : p.tables.exec = Jvm.exec) (hb : c.code = code) (hr : meth.sig.returnType = ret) (hlocks : meth.locks = false) (hX : va_X b L xs s s.heap) (hbl : b < s.heap.size) (hS : va_S (fun q : Nat => s.heap.size ≤ q) s.heap H locs) (hc : cells ≤ 65) (hs : slots ≤ 10005) (hi : nI L - 6 < i) (hl : lv_has ls 7 [(4, .int i), (0, .ref b)]) : W p l e room_1 s m #[Value.ref b] below meth c H locs cells slots (lw_Z below #[Value.ref b] s) (F0 m 23 ls []) := by
  have hbA : ¬ (fun q : Nat => s.heap.size ≤ q) b := Nat.not_le.mpr hbl
  refine lv_iload hx hb d_w_law_23 (lv_at hl 0 rfl) ?_
  refine lv_aload_n hx hb d_w_law_25 rfl (lv_at hl 1 rfl) ?_
  refine va_slen hx hb hX hbl hbA hS d_w_law_26 ?_
  refine lv_bipush (v := 6) hx hb d_w_law_27 (by decide) ?_
  refine lv_isub hx hb d_w_law_29 ?_
  refine lv_icmp_gt (tgt := 937) hx hb d_w_law_30 (by decide) (fun c9 => ?_) (fun c9 => absurd hi c9)
  refine lv_iconst (v := 1) hx hb d_w_law_937 (by decide) ?_
  refine va_forget (fun q hq => hS.2.2 q hq) ?_
  refine W.widen (k := 65) (n := 10005) hc hs ?_
  exact lw_ret hx hb hr hlocks d_w_law_938
set_option maxHeartbeats 4000000 in
set_option maxRecDepth 100000 in
theorem law_end {p : Program} {l : Launch} {e : Env} {s : State} {m : MethodId} {below : List Frame} {meth : Method} {c : Code} {b : Nat} {xs : Nat → Int32} {H : Heap} {locs : List Loc} {ls : Array Slot} {cells slots : Nat} (hx : p.tables.exec = Jvm.exec) (hb : c.code = code) (hr : meth.sig.returnType = ret) (hlocks : meth.locks = false) (hX : va_X b 6 xs s s.heap) (hbl : b < s.heap.size) (hS : va_S (fun q : Nat => s.heap.size ≤ q) s.heap H locs) (hc : cells ≤ 65) (hs : slots ≤ 10005) (hl : lv_has ls 7 [(4, .int 0), (0, .ref b)]) : W p l e room_1 s m #[Value.ref b] below meth c H locs cells slots (lw_Z below #[Value.ref b] s) (F0 m 931 ls []) := by
  obtain ⟨x4, e4⟩ : ∃ y : Int32, y = 0 + 6 := ⟨_, rfl⟩
  refine lv_iinc (v := x4) (lv' := [(4, .int x4), (0, .ref b)]) hx hb d_w_law_931 hl (k := 0) rfl (by rw [e4]; rfl) (by decide) rfl (fun ls hl => ?_)
  refine lv_goto (tgt := 23) hx hb d_w_law_934 (by decide) ?_
  exact law_out hx hb hr hlocks hX hbl hS hc hs (by rw [e4]; decide) hl
end
section
set_option maxHeartbeats 4000000 in
set_option maxRecDepth 100000 in
theorem law_0 {p : Program} {l : Launch} {e : Env} {s : State} {m : MethodId} {below : List Frame} {meth : Method} {c : Code} {b : Nat} {xs : Nat → Int32} {D : va_G} {a a2 : Nat → Nat} {kI kZ kL : ClassId} {q : Nat} {H : Heap} {locs : List Loc} {ls : Array Slot} (C : lw_I p l s m meth c b xs D a a2 kI kZ kL q H locs ls) : W p l e room_1 s m #[Value.ref b] below meth c H locs 60 9971 (lw_Z below #[Value.ref b] s) (F0 m 124 ls []) := by
  obtain ⟨hx, hb, hr, hml, hown, hG, hlocks, hX, hbl, hK, hZ, hC, hlt, hP, hD, hS, hl⟩ := C
  have hA : ∀ q : Nat, s.heap.size ≤ q → (fun q : Nat => s.heap.size ≤ q) q := fun _ h => h
  have hbA : ¬ (fun q : Nat => s.heap.size ≤ q) b := Nat.not_le.mpr hbl
  have hK2 := hK.sub (tys' := rl_tys kI kZ) [0, 1] rfl
  refine lv_aload_n hx hb d_w_law_124 rfl (lv_at hl 3 rfl) ?_
  refine lv_aload_n hx hb d_w_law_125 rfl (lv_at hl 4 rfl) ?_
  refine lv_iload hx hb d_w_law_126 (lv_at hl 0 rfl) ?_
  refine lv_iconst (v := 1) hx hb d_w_law_128 (by decide) ?_
  refine lv_iadd hx hb d_w_law_129 ?_
  refine lv_topi (fun v1 ev1 => ?_)
  obtain rfl : v1 = 1 := ev1.trans (by decide)
  refine va_sld hx hb hX hbl hbA hS (rl_in (x := 1) (n := 6) (by decide) (by decide)) d_w_law_130 ?_
  have hpre := rl_B.pre (av := .ref (a 0) :: [.int (xs (1 : Int32).toNatClampNeg)]) rl_nw0 (rl_P.l (rl_P.l hP)) hK2 (rl_D.l (rl_D.l hD)) rl_N0
  refine rl_calliL hP hD hS hA (va_runV (As := [.int (xs (1 : Int32).toNatClampNeg)]) (rest := []) ⟨hx, hb, hml, hown, hG⟩ (k_x_title l D a kI kZ (xs (1 : Int32).toNatClampNeg) _) (cwV 1 hG (rl_gV wd_193 wd_194 wd_195 wd_14 wd_196) rfl rfl rfl (by decide +kernel) ⟨Nat.le_of_ble_eq_true rfl, Nat.le_of_ble_eq_true rfl⟩) ⟨hpre.1, (va_recv hK (rl_P.l (rl_P.l hP)) (ci := 0) (q0 := 0) rfl rfl), hpre.2⟩ rfl rfl hl.1 rfl (lv_room (Nat.le_of_ble_eq_true rfl)) d_w_law_131 ⟨Nat.le_of_ble_eq_true rfl, Nat.le_of_ble_eq_true rfl⟩) (fun r2 F4 H locs h3 hP hD hS => ?_)
  have hP : va_P D rl_cl ((rl_w a kI kZ F4 ++ rl_O kL q (fun _ => 0)) ++ rm_w a2 kI kZ rm_F0) H := hP
  have hD : va_D (fun q : Nat => s.heap.size ≤ q) ((rl_w a kI kZ F4 ++ rl_O kL q (fun _ => 0)) ++ rm_w a2 kI kZ rm_F0) := hD
  refine lv_aload_n hx hb d_w_law_134 rfl (lv_at hl 2 rfl) ?_
  refine lv_aload_n hx hb d_w_law_135 rfl (lv_at hl 4 rfl) ?_
  refine lv_iload hx hb d_w_law_136 (lv_at hl 0 rfl) ?_
  refine lv_iconst (v := 1) hx hb d_w_law_138 (by decide) ?_
  refine lv_iadd hx hb d_w_law_139 ?_
  refine lv_topi (fun v5 ev5 => ?_)
  obtain rfl : v5 = 1 := ev5.trans (by decide)
  refine va_sld hx hb hX hbl hbA hS (rl_in (x := 1) (n := 6) (by decide) (by decide)) d_w_law_140 ?_
  have hpre := rl_B.pre (av := .ref (a2 0) :: [.int (xs (1 : Int32).toNatClampNeg)]) rl_nw0 (rl_P.r hP) hK2 (rl_D.r hD) rl_N0
  refine rl_calliR hP hD hS hA (va_runV (As := [.int (xs (1 : Int32).toNatClampNeg)]) (rest := [.int r2]) ⟨hx, hb, hml, hown, hG⟩ (k_m_title l D a2 kI kZ (xs (1 : Int32).toNatClampNeg) _) (cwV 1 hG (rl_gV wd_587 wd_588 wd_589 wd_19 wd_590) rfl rfl rfl (by decide +kernel) ⟨Nat.le_of_ble_eq_true rfl, Nat.le_of_ble_eq_true rfl⟩) ⟨hpre.1, (va_recv hK (rl_P.r hP) (ci := 5) (q0 := 0) rfl rfl), hpre.2⟩ rfl rfl hl.1 rfl (lv_room (Nat.le_of_ble_eq_true rfl)) d_w_law_141 ⟨Nat.le_of_ble_eq_true rfl, Nat.le_of_ble_eq_true rfl⟩) (fun r6 F8 H locs h7 hP hD hS => ?_)
  have hP : va_P D rl_cl ((rl_w a kI kZ F4 ++ rl_O kL q (fun _ => 0)) ++ rm_w a2 kI kZ F8) H := hP
  have hD : va_D (fun q : Nat => s.heap.size ≤ q) ((rl_w a kI kZ F4 ++ rl_O kL q (fun _ => 0)) ++ rm_w a2 kI kZ F8) := hD
  refine lv_icmp_eq (tgt := 931) hx hb d_w_law_144 (by decide) (fun _ => ?_) (fun c9 => absurd (Int32.toInt_inj.mp (by omega)) c9)
  exact law_end hx hb hr hlocks hX hbl hS (Nat.le_of_ble_eq_true rfl) (Nat.le_of_ble_eq_true rfl) (lv_sub hl [0, 4] rfl)
set_option maxHeartbeats 4000000 in
set_option maxRecDepth 100000 in
theorem law_1 {p : Program} {l : Launch} {e : Env} {s : State} {m : MethodId} {below : List Frame} {meth : Method} {c : Code} {b : Nat} {xs : Nat → Int32} {D : va_G} {a a2 : Nat → Nat} {kI kZ kL : ClassId} {q : Nat} {H : Heap} {locs : List Loc} {ls : Array Slot} (C : lw_I p l s m meth c b xs D a a2 kI kZ kL q H locs ls) : W p l e room_1 s m #[Value.ref b] below meth c H locs 60 9971 (lw_Z below #[Value.ref b] s) (F0 m 149 ls []) := by
  obtain ⟨hx, hb, hr, hml, hown, hG, hlocks, hX, hbl, hK, hZ, hC, hlt, hP, hD, hS, hl⟩ := C
  have hA : ∀ q : Nat, s.heap.size ≤ q → (fun q : Nat => s.heap.size ≤ q) q := fun _ h => h
  have hbA : ¬ (fun q : Nat => s.heap.size ≤ q) b := Nat.not_le.mpr hbl
  have hK2 := hK.sub (tys' := rl_tys kI kZ) [0, 1] rfl
  refine lv_aload_n hx hb d_w_law_149 rfl (lv_at hl 3 rfl) ?_
  refine lv_aload_n hx hb d_w_law_150 rfl (lv_at hl 4 rfl) ?_
  refine lv_iload hx hb d_w_law_151 (lv_at hl 0 rfl) ?_
  refine lv_iconst (v := 1) hx hb d_w_law_153 (by decide) ?_
  refine lv_iadd hx hb d_w_law_154 ?_
  refine lv_topi (fun v1 ev1 => ?_)
  obtain rfl : v1 = 1 := ev1.trans (by decide)
  refine va_sld hx hb hX hbl hbA hS (rl_in (x := 1) (n := 6) (by decide) (by decide)) d_w_law_155 ?_
  refine lv_aload_n hx hb d_w_law_156 rfl (lv_at hl 4 rfl) ?_
  refine lv_iload hx hb d_w_law_157 (lv_at hl 0 rfl) ?_
  refine lv_iconst (v := 2) hx hb d_w_law_159 (by decide) ?_
  refine lv_iadd hx hb d_w_law_160 ?_
  refine lv_topi (fun v2 ev2 => ?_)
  obtain rfl : v2 = 2 := ev2.trans (by decide)
  refine va_sld hx hb hX hbl hbA hS (rl_in (x := 2) (n := 6) (by decide) (by decide)) d_w_law_161 ?_
  refine lv_if_eq (tgt := 169) hx hb d_w_law_162 (by decide) (fun _ => ?_) (fun _ => ?_)
  · refine lv_iconst (v := 0) hx hb d_w_law_169 (by decide) ?_
    have hpre := rl_BR.pre (av := .ref (a 0) :: [.int (xs (1 : Int32).toNatClampNeg), .int 0]) rl_nw0 (rl_P.l (rl_P.l hP)) hK2 rl_N0
    refine rl_callr hS (va_runV (As := [.int (xs (1 : Int32).toNatClampNeg), .int 0]) (rest := []) ⟨hx, hb, hml, hown, hG⟩ (k_x_open l D a kI kZ (xs (1 : Int32).toNatClampNeg) 0 _) (cwV 2 hG (rl_gV wd_207 wd_208 wd_209 wd_14 wd_210) rfl rfl rfl (by decide +kernel) ⟨Nat.le_of_ble_eq_true rfl, Nat.le_of_ble_eq_true rfl⟩) ⟨hpre.1, (va_recv hK (rl_P.l (rl_P.l hP)) (ci := 0) (q0 := 0) rfl rfl), hpre.2⟩ rfl rfl hl.1 rfl (lv_room (Nat.le_of_ble_eq_true rfl)) d_w_law_170 ⟨Nat.le_of_ble_eq_true rfl, Nat.le_of_ble_eq_true rfl⟩) (fun r3 locs h4 hS => ?_)
    refine lv_aload_n hx hb d_w_law_173 rfl (lv_at hl 2 rfl) ?_
    refine lv_aload_n hx hb d_w_law_174 rfl (lv_at hl 4 rfl) ?_
    refine lv_iload hx hb d_w_law_175 (lv_at hl 0 rfl) ?_
    refine lv_iconst (v := 1) hx hb d_w_law_177 (by decide) ?_
    refine lv_iadd hx hb d_w_law_178 ?_
    refine lv_topi (fun v5 ev5 => ?_)
    obtain rfl : v5 = 1 := ev5.trans (by decide)
    refine va_sld hx hb hX hbl hbA hS (rl_in (x := 1) (n := 6) (by decide) (by decide)) d_w_law_179 ?_
    refine lv_aload_n hx hb d_w_law_180 rfl (lv_at hl 4 rfl) ?_
    refine lv_iload hx hb d_w_law_181 (lv_at hl 0 rfl) ?_
    refine lv_iconst (v := 2) hx hb d_w_law_183 (by decide) ?_
    refine lv_iadd hx hb d_w_law_184 ?_
    refine lv_topi (fun v6 ev6 => ?_)
    obtain rfl : v6 = 2 := ev6.trans (by decide)
    refine va_sld hx hb hX hbl hbA hS (rl_in (x := 2) (n := 6) (by decide) (by decide)) d_w_law_185 ?_
    refine lv_if_eq (tgt := 193) hx hb d_w_law_186 (by decide) (fun _ => ?_) (fun _ => ?_)
    · refine lv_iconst (v := 0) hx hb d_w_law_193 (by decide) ?_
      have hpre := rl_B.pre (av := .ref (a2 0) :: [.int (xs (1 : Int32).toNatClampNeg), .int 0]) rl_nw0 (rl_P.r hP) hK2 (rl_D.r hD) rl_N0
      refine rl_calliR hP hD hS hA (va_runV (As := [.int (xs (1 : Int32).toNatClampNeg), .int 0]) (rest := [.int r3]) ⟨hx, hb, hml, hown, hG⟩ (k_m_open l D a2 kI kZ (xs (1 : Int32).toNatClampNeg) 0 _) (cwV 2 hG (rl_gV wd_594 wd_595 wd_596 wd_19 wd_597) rfl rfl rfl (by decide +kernel) ⟨Nat.le_of_ble_eq_true rfl, Nat.le_of_ble_eq_true rfl⟩) ⟨hpre.1, (va_recv hK (rl_P.r hP) (ci := 5) (q0 := 0) rfl rfl), hpre.2⟩ rfl rfl hl.1 rfl (lv_room (Nat.le_of_ble_eq_true rfl)) d_w_law_194 ⟨Nat.le_of_ble_eq_true rfl, Nat.le_of_ble_eq_true rfl⟩) (fun r7 F9 H locs h8 hP hD hS => ?_)
      have hP : va_P D rl_cl ((rl_w a kI kZ rl_F0 ++ rl_O kL q (fun _ => 0)) ++ rm_w a2 kI kZ F9) H := hP
      have hD : va_D (fun q : Nat => s.heap.size ≤ q) ((rl_w a kI kZ rl_F0 ++ rl_O kL q (fun _ => 0)) ++ rm_w a2 kI kZ F9) := hD
      refine lv_icmp_eq (tgt := 931) hx hb d_w_law_197 (by decide) (fun _ => ?_) (fun c9 => absurd (Int32.toInt_inj.mp (by omega)) c9)
      exact law_end hx hb hr hlocks hX hbl hS (Nat.le_of_ble_eq_true rfl) (Nat.le_of_ble_eq_true rfl) (lv_sub hl [0, 4] rfl)
    · refine lv_iconst (v := 1) hx hb d_w_law_189 (by decide) ?_
      refine lv_goto (tgt := 194) hx hb d_w_law_190 (by decide) ?_
      have hpre := rl_B.pre (av := .ref (a2 0) :: [.int (xs (1 : Int32).toNatClampNeg), .int 1]) rl_nw0 (rl_P.r hP) hK2 (rl_D.r hD) rl_N0
      refine rl_calliR hP hD hS hA (va_runV (As := [.int (xs (1 : Int32).toNatClampNeg), .int 1]) (rest := [.int r3]) ⟨hx, hb, hml, hown, hG⟩ (k_m_open l D a2 kI kZ (xs (1 : Int32).toNatClampNeg) 1 _) (cwV 2 hG (rl_gV wd_594 wd_595 wd_596 wd_19 wd_597) rfl rfl rfl (by decide +kernel) ⟨Nat.le_of_ble_eq_true rfl, Nat.le_of_ble_eq_true rfl⟩) ⟨hpre.1, (va_recv hK (rl_P.r hP) (ci := 5) (q0 := 0) rfl rfl), hpre.2⟩ rfl rfl hl.1 rfl (lv_room (Nat.le_of_ble_eq_true rfl)) d_w_law_194 ⟨Nat.le_of_ble_eq_true rfl, Nat.le_of_ble_eq_true rfl⟩) (fun r10 F12 H locs h11 hP hD hS => ?_)
      have hP : va_P D rl_cl ((rl_w a kI kZ rl_F0 ++ rl_O kL q (fun _ => 0)) ++ rm_w a2 kI kZ F12) H := hP
      have hD : va_D (fun q : Nat => s.heap.size ≤ q) ((rl_w a kI kZ rl_F0 ++ rl_O kL q (fun _ => 0)) ++ rm_w a2 kI kZ F12) := hD
      refine lv_icmp_eq (tgt := 931) hx hb d_w_law_197 (by decide) (fun _ => ?_) (fun c9 => absurd (Int32.toInt_inj.mp (by omega)) c9)
      exact law_end hx hb hr hlocks hX hbl hS (Nat.le_of_ble_eq_true rfl) (Nat.le_of_ble_eq_true rfl) (lv_sub hl [0, 4] rfl)
  · refine lv_iconst (v := 1) hx hb d_w_law_165 (by decide) ?_
    refine lv_goto (tgt := 170) hx hb d_w_law_166 (by decide) ?_
    have hpre := rl_BR.pre (av := .ref (a 0) :: [.int (xs (1 : Int32).toNatClampNeg), .int 1]) rl_nw0 (rl_P.l (rl_P.l hP)) hK2 rl_N0
    refine rl_callr hS (va_runV (As := [.int (xs (1 : Int32).toNatClampNeg), .int 1]) (rest := []) ⟨hx, hb, hml, hown, hG⟩ (k_x_open l D a kI kZ (xs (1 : Int32).toNatClampNeg) 1 _) (cwV 2 hG (rl_gV wd_207 wd_208 wd_209 wd_14 wd_210) rfl rfl rfl (by decide +kernel) ⟨Nat.le_of_ble_eq_true rfl, Nat.le_of_ble_eq_true rfl⟩) ⟨hpre.1, (va_recv hK (rl_P.l (rl_P.l hP)) (ci := 0) (q0 := 0) rfl rfl), hpre.2⟩ rfl rfl hl.1 rfl (lv_room (Nat.le_of_ble_eq_true rfl)) d_w_law_170 ⟨Nat.le_of_ble_eq_true rfl, Nat.le_of_ble_eq_true rfl⟩) (fun r13 locs h14 hS => ?_)
    refine lv_aload_n hx hb d_w_law_173 rfl (lv_at hl 2 rfl) ?_
    refine lv_aload_n hx hb d_w_law_174 rfl (lv_at hl 4 rfl) ?_
    refine lv_iload hx hb d_w_law_175 (lv_at hl 0 rfl) ?_
    refine lv_iconst (v := 1) hx hb d_w_law_177 (by decide) ?_
    refine lv_iadd hx hb d_w_law_178 ?_
    refine lv_topi (fun v15 ev15 => ?_)
    obtain rfl : v15 = 1 := ev15.trans (by decide)
    refine va_sld hx hb hX hbl hbA hS (rl_in (x := 1) (n := 6) (by decide) (by decide)) d_w_law_179 ?_
    refine lv_aload_n hx hb d_w_law_180 rfl (lv_at hl 4 rfl) ?_
    refine lv_iload hx hb d_w_law_181 (lv_at hl 0 rfl) ?_
    refine lv_iconst (v := 2) hx hb d_w_law_183 (by decide) ?_
    refine lv_iadd hx hb d_w_law_184 ?_
    refine lv_topi (fun v16 ev16 => ?_)
    obtain rfl : v16 = 2 := ev16.trans (by decide)
    refine va_sld hx hb hX hbl hbA hS (rl_in (x := 2) (n := 6) (by decide) (by decide)) d_w_law_185 ?_
    refine lv_if_eq (tgt := 193) hx hb d_w_law_186 (by decide) (fun _ => ?_) (fun _ => ?_)
    · refine lv_iconst (v := 0) hx hb d_w_law_193 (by decide) ?_
      have hpre := rl_B.pre (av := .ref (a2 0) :: [.int (xs (1 : Int32).toNatClampNeg), .int 0]) rl_nw0 (rl_P.r hP) hK2 (rl_D.r hD) rl_N0
      refine rl_calliR hP hD hS hA (va_runV (As := [.int (xs (1 : Int32).toNatClampNeg), .int 0]) (rest := [.int r13]) ⟨hx, hb, hml, hown, hG⟩ (k_m_open l D a2 kI kZ (xs (1 : Int32).toNatClampNeg) 0 _) (cwV 2 hG (rl_gV wd_594 wd_595 wd_596 wd_19 wd_597) rfl rfl rfl (by decide +kernel) ⟨Nat.le_of_ble_eq_true rfl, Nat.le_of_ble_eq_true rfl⟩) ⟨hpre.1, (va_recv hK (rl_P.r hP) (ci := 5) (q0 := 0) rfl rfl), hpre.2⟩ rfl rfl hl.1 rfl (lv_room (Nat.le_of_ble_eq_true rfl)) d_w_law_194 ⟨Nat.le_of_ble_eq_true rfl, Nat.le_of_ble_eq_true rfl⟩) (fun r17 F19 H locs h18 hP hD hS => ?_)
      have hP : va_P D rl_cl ((rl_w a kI kZ rl_F0 ++ rl_O kL q (fun _ => 0)) ++ rm_w a2 kI kZ F19) H := hP
      have hD : va_D (fun q : Nat => s.heap.size ≤ q) ((rl_w a kI kZ rl_F0 ++ rl_O kL q (fun _ => 0)) ++ rm_w a2 kI kZ F19) := hD
      refine lv_icmp_eq (tgt := 931) hx hb d_w_law_197 (by decide) (fun _ => ?_) (fun c9 => absurd (Int32.toInt_inj.mp (by omega)) c9)
      exact law_end hx hb hr hlocks hX hbl hS (Nat.le_of_ble_eq_true rfl) (Nat.le_of_ble_eq_true rfl) (lv_sub hl [0, 4] rfl)
    · refine lv_iconst (v := 1) hx hb d_w_law_189 (by decide) ?_
      refine lv_goto (tgt := 194) hx hb d_w_law_190 (by decide) ?_
      have hpre := rl_B.pre (av := .ref (a2 0) :: [.int (xs (1 : Int32).toNatClampNeg), .int 1]) rl_nw0 (rl_P.r hP) hK2 (rl_D.r hD) rl_N0
      refine rl_calliR hP hD hS hA (va_runV (As := [.int (xs (1 : Int32).toNatClampNeg), .int 1]) (rest := [.int r13]) ⟨hx, hb, hml, hown, hG⟩ (k_m_open l D a2 kI kZ (xs (1 : Int32).toNatClampNeg) 1 _) (cwV 2 hG (rl_gV wd_594 wd_595 wd_596 wd_19 wd_597) rfl rfl rfl (by decide +kernel) ⟨Nat.le_of_ble_eq_true rfl, Nat.le_of_ble_eq_true rfl⟩) ⟨hpre.1, (va_recv hK (rl_P.r hP) (ci := 5) (q0 := 0) rfl rfl), hpre.2⟩ rfl rfl hl.1 rfl (lv_room (Nat.le_of_ble_eq_true rfl)) d_w_law_194 ⟨Nat.le_of_ble_eq_true rfl, Nat.le_of_ble_eq_true rfl⟩) (fun r20 F22 H locs h21 hP hD hS => ?_)
      have hP : va_P D rl_cl ((rl_w a kI kZ rl_F0 ++ rl_O kL q (fun _ => 0)) ++ rm_w a2 kI kZ F22) H := hP
      have hD : va_D (fun q : Nat => s.heap.size ≤ q) ((rl_w a kI kZ rl_F0 ++ rl_O kL q (fun _ => 0)) ++ rm_w a2 kI kZ F22) := hD
      refine lv_icmp_eq (tgt := 931) hx hb d_w_law_197 (by decide) (fun _ => ?_) (fun c9 => absurd (Int32.toInt_inj.mp (by omega)) c9)
      exact law_end hx hb hr hlocks hX hbl hS (Nat.le_of_ble_eq_true rfl) (Nat.le_of_ble_eq_true rfl) (lv_sub hl [0, 4] rfl)
set_option maxHeartbeats 4000000 in
set_option maxRecDepth 100000 in
theorem law_2 {p : Program} {l : Launch} {e : Env} {s : State} {m : MethodId} {below : List Frame} {meth : Method} {c : Code} {b : Nat} {xs : Nat → Int32} {D : va_G} {a a2 : Nat → Nat} {kI kZ kL : ClassId} {q : Nat} {H : Heap} {locs : List Loc} {ls : Array Slot} (C : lw_I p l s m meth c b xs D a a2 kI kZ kL q H locs ls) : W p l e room_1 s m #[Value.ref b] below meth c H locs 60 9971 (lw_Z below #[Value.ref b] s) (F0 m 202 ls []) := by
  obtain ⟨hx, hb, hr, hml, hown, hG, hlocks, hX, hbl, hK, hZ, hC, hlt, hP, hD, hS, hl⟩ := C
  have hA : ∀ q : Nat, s.heap.size ≤ q → (fun q : Nat => s.heap.size ≤ q) q := fun _ h => h
  have hbA : ¬ (fun q : Nat => s.heap.size ≤ q) b := Nat.not_le.mpr hbl
  have hK2 := hK.sub (tys' := rl_tys kI kZ) [0, 1] rfl
  refine lv_aload_n hx hb d_w_law_202 rfl (lv_at hl 3 rfl) ?_
  refine lv_aload_n hx hb d_w_law_203 rfl (lv_at hl 4 rfl) ?_
  refine lv_iload hx hb d_w_law_204 (lv_at hl 0 rfl) ?_
  refine lv_iconst (v := 1) hx hb d_w_law_206 (by decide) ?_
  refine lv_iadd hx hb d_w_law_207 ?_
  refine lv_topi (fun v1 ev1 => ?_)
  obtain rfl : v1 = 1 := ev1.trans (by decide)
  refine va_sld hx hb hX hbl hbA hS (rl_in (x := 1) (n := 6) (by decide) (by decide)) d_w_law_208 ?_
  refine lv_aload_n hx hb d_w_law_209 rfl (lv_at hl 4 rfl) ?_
  refine lv_iload hx hb d_w_law_210 (lv_at hl 0 rfl) ?_
  refine lv_iconst (v := 2) hx hb d_w_law_212 (by decide) ?_
  refine lv_iadd hx hb d_w_law_213 ?_
  refine lv_topi (fun v2 ev2 => ?_)
  obtain rfl : v2 = 2 := ev2.trans (by decide)
  refine va_sld hx hb hX hbl hbA hS (rl_in (x := 2) (n := 6) (by decide) (by decide)) d_w_law_214 ?_
  refine lv_aload_n hx hb d_w_law_215 rfl (lv_at hl 4 rfl) ?_
  refine lv_iload hx hb d_w_law_216 (lv_at hl 0 rfl) ?_
  refine lv_iconst (v := 3) hx hb d_w_law_218 (by decide) ?_
  refine lv_iadd hx hb d_w_law_219 ?_
  refine lv_topi (fun v3 ev3 => ?_)
  obtain rfl : v3 = 3 := ev3.trans (by decide)
  refine va_sld hx hb hX hbl hbA hS (rl_in (x := 3) (n := 6) (by decide) (by decide)) d_w_law_220 ?_
  refine lv_aload_n hx hb d_w_law_221 rfl (lv_at hl 4 rfl) ?_
  refine lv_iload hx hb d_w_law_222 (lv_at hl 0 rfl) ?_
  refine lv_iconst (v := 4) hx hb d_w_law_224 (by decide) ?_
  refine lv_iadd hx hb d_w_law_225 ?_
  refine lv_topi (fun v4 ev4 => ?_)
  obtain rfl : v4 = 4 := ev4.trans (by decide)
  refine va_sld hx hb hX hbl hbA hS (rl_in (x := 4) (n := 6) (by decide) (by decide)) d_w_law_226 ?_
  have hpre := rl_BR.pre (av := .ref (a 0) :: [.int (xs (1 : Int32).toNatClampNeg), .int (xs (2 : Int32).toNatClampNeg), .int (xs (3 : Int32).toNatClampNeg), .int (xs (4 : Int32).toNatClampNeg)]) rl_nw0 (rl_P.l (rl_P.l hP)) hK2 rl_N0
  refine rl_callr hS (va_runV (As := [.int (xs (1 : Int32).toNatClampNeg), .int (xs (2 : Int32).toNatClampNeg), .int (xs (3 : Int32).toNatClampNeg), .int (xs (4 : Int32).toNatClampNeg)]) (rest := []) ⟨hx, hb, hml, hown, hG⟩ (k_x_limit l D a kI kZ (xs (1 : Int32).toNatClampNeg) (xs (2 : Int32).toNatClampNeg) (xs (3 : Int32).toNatClampNeg) (xs (4 : Int32).toNatClampNeg) _) (cwV 4 hG (rl_gV wd_215 wd_216 wd_217 wd_14 wd_218) rfl rfl rfl (by decide +kernel) ⟨Nat.le_of_ble_eq_true rfl, Nat.le_of_ble_eq_true rfl⟩) ⟨hpre.1, (va_recv hK (rl_P.l (rl_P.l hP)) (ci := 0) (q0 := 0) rfl rfl), hpre.2⟩ rfl rfl hl.1 rfl (lv_room (Nat.le_of_ble_eq_true rfl)) d_w_law_227 ⟨Nat.le_of_ble_eq_true rfl, Nat.le_of_ble_eq_true rfl⟩) (fun r5 locs h6 hS => ?_)
  refine lv_aload_n hx hb d_w_law_230 rfl (lv_at hl 2 rfl) ?_
  refine lv_aload_n hx hb d_w_law_231 rfl (lv_at hl 4 rfl) ?_
  refine lv_iload hx hb d_w_law_232 (lv_at hl 0 rfl) ?_
  refine lv_iconst (v := 1) hx hb d_w_law_234 (by decide) ?_
  refine lv_iadd hx hb d_w_law_235 ?_
  refine lv_topi (fun v7 ev7 => ?_)
  obtain rfl : v7 = 1 := ev7.trans (by decide)
  refine va_sld hx hb hX hbl hbA hS (rl_in (x := 1) (n := 6) (by decide) (by decide)) d_w_law_236 ?_
  refine lv_aload_n hx hb d_w_law_237 rfl (lv_at hl 4 rfl) ?_
  refine lv_iload hx hb d_w_law_238 (lv_at hl 0 rfl) ?_
  refine lv_iconst (v := 2) hx hb d_w_law_240 (by decide) ?_
  refine lv_iadd hx hb d_w_law_241 ?_
  refine lv_topi (fun v8 ev8 => ?_)
  obtain rfl : v8 = 2 := ev8.trans (by decide)
  refine va_sld hx hb hX hbl hbA hS (rl_in (x := 2) (n := 6) (by decide) (by decide)) d_w_law_242 ?_
  refine lv_aload_n hx hb d_w_law_243 rfl (lv_at hl 4 rfl) ?_
  refine lv_iload hx hb d_w_law_244 (lv_at hl 0 rfl) ?_
  refine lv_iconst (v := 3) hx hb d_w_law_246 (by decide) ?_
  refine lv_iadd hx hb d_w_law_247 ?_
  refine lv_topi (fun v9 ev9 => ?_)
  obtain rfl : v9 = 3 := ev9.trans (by decide)
  refine va_sld hx hb hX hbl hbA hS (rl_in (x := 3) (n := 6) (by decide) (by decide)) d_w_law_248 ?_
  refine lv_aload_n hx hb d_w_law_249 rfl (lv_at hl 4 rfl) ?_
  refine lv_iload hx hb d_w_law_250 (lv_at hl 0 rfl) ?_
  refine lv_iconst (v := 4) hx hb d_w_law_252 (by decide) ?_
  refine lv_iadd hx hb d_w_law_253 ?_
  refine lv_topi (fun v10 ev10 => ?_)
  obtain rfl : v10 = 4 := ev10.trans (by decide)
  refine va_sld hx hb hX hbl hbA hS (rl_in (x := 4) (n := 6) (by decide) (by decide)) d_w_law_254 ?_
  have hpre := rl_B.pre (av := .ref (a2 0) :: [.int (xs (1 : Int32).toNatClampNeg), .int (xs (2 : Int32).toNatClampNeg), .int (xs (3 : Int32).toNatClampNeg), .int (xs (4 : Int32).toNatClampNeg)]) rl_nw0 (rl_P.r hP) hK2 (rl_D.r hD) rl_N0
  refine rl_calliR hP hD hS hA (va_runV (As := [.int (xs (1 : Int32).toNatClampNeg), .int (xs (2 : Int32).toNatClampNeg), .int (xs (3 : Int32).toNatClampNeg), .int (xs (4 : Int32).toNatClampNeg)]) (rest := [.int r5]) ⟨hx, hb, hml, hown, hG⟩ (k_m_limit l D a2 kI kZ (xs (1 : Int32).toNatClampNeg) (xs (2 : Int32).toNatClampNeg) (xs (3 : Int32).toNatClampNeg) (xs (4 : Int32).toNatClampNeg) _) (cwV 4 hG (rl_gV wd_602 wd_603 wd_604 wd_19 wd_605) rfl rfl rfl (by decide +kernel) ⟨Nat.le_of_ble_eq_true rfl, Nat.le_of_ble_eq_true rfl⟩) ⟨hpre.1, (va_recv hK (rl_P.r hP) (ci := 5) (q0 := 0) rfl rfl), hpre.2⟩ rfl rfl hl.1 rfl (lv_room (Nat.le_of_ble_eq_true rfl)) d_w_law_255 ⟨Nat.le_of_ble_eq_true rfl, Nat.le_of_ble_eq_true rfl⟩) (fun r11 F13 H locs h12 hP hD hS => ?_)
  have hP : va_P D rl_cl ((rl_w a kI kZ rl_F0 ++ rl_O kL q (fun _ => 0)) ++ rm_w a2 kI kZ F13) H := hP
  have hD : va_D (fun q : Nat => s.heap.size ≤ q) ((rl_w a kI kZ rl_F0 ++ rl_O kL q (fun _ => 0)) ++ rm_w a2 kI kZ F13) := hD
  refine lv_icmp_eq (tgt := 931) hx hb d_w_law_258 (by decide) (fun _ => ?_) (fun c9 => absurd (Int32.toInt_inj.mp (by omega)) c9)
  exact law_end hx hb hr hlocks hX hbl hS (Nat.le_of_ble_eq_true rfl) (Nat.le_of_ble_eq_true rfl) (lv_sub hl [0, 4] rfl)
set_option maxHeartbeats 4000000 in
set_option maxRecDepth 100000 in
theorem law_3 {p : Program} {l : Launch} {e : Env} {s : State} {m : MethodId} {below : List Frame} {meth : Method} {c : Code} {b : Nat} {xs : Nat → Int32} {D : va_G} {a a2 : Nat → Nat} {kI kZ kL : ClassId} {q : Nat} {H : Heap} {locs : List Loc} {ls : Array Slot} (C : lw_I p l s m meth c b xs D a a2 kI kZ kL q H locs ls) : W p l e room_1 s m #[Value.ref b] below meth c H locs 60 9971 (lw_Z below #[Value.ref b] s) (F0 m 263 ls []) := by
  obtain ⟨hx, hb, hr, hml, hown, hG, hlocks, hX, hbl, hK, hZ, hC, hlt, hP, hD, hS, hl⟩ := C
  have hA : ∀ q : Nat, s.heap.size ≤ q → (fun q : Nat => s.heap.size ≤ q) q := fun _ h => h
  have hbA : ¬ (fun q : Nat => s.heap.size ≤ q) b := Nat.not_le.mpr hbl
  have hK2 := hK.sub (tys' := rl_tys kI kZ) [0, 1] rfl
  refine lv_aload_n hx hb d_w_law_263 rfl (lv_at hl 3 rfl) ?_
  refine lv_aload_n hx hb d_w_law_264 rfl (lv_at hl 4 rfl) ?_
  refine lv_iload hx hb d_w_law_265 (lv_at hl 0 rfl) ?_
  refine lv_iconst (v := 1) hx hb d_w_law_267 (by decide) ?_
  refine lv_iadd hx hb d_w_law_268 ?_
  refine lv_topi (fun v1 ev1 => ?_)
  obtain rfl : v1 = 1 := ev1.trans (by decide)
  refine va_sld hx hb hX hbl hbA hS (rl_in (x := 1) (n := 6) (by decide) (by decide)) d_w_law_269 ?_
  refine lv_aload_n hx hb d_w_law_270 rfl (lv_at hl 4 rfl) ?_
  refine lv_iload hx hb d_w_law_271 (lv_at hl 0 rfl) ?_
  refine lv_iconst (v := 2) hx hb d_w_law_273 (by decide) ?_
  refine lv_iadd hx hb d_w_law_274 ?_
  refine lv_topi (fun v2 ev2 => ?_)
  obtain rfl : v2 = 2 := ev2.trans (by decide)
  refine va_sld hx hb hX hbl hbA hS (rl_in (x := 2) (n := 6) (by decide) (by decide)) d_w_law_275 ?_
  refine lv_aload_n hx hb d_w_law_276 rfl (lv_at hl 4 rfl) ?_
  refine lv_iload hx hb d_w_law_277 (lv_at hl 0 rfl) ?_
  refine lv_iconst (v := 3) hx hb d_w_law_279 (by decide) ?_
  refine lv_iadd hx hb d_w_law_280 ?_
  refine lv_topi (fun v3 ev3 => ?_)
  obtain rfl : v3 = 3 := ev3.trans (by decide)
  refine va_sld hx hb hX hbl hbA hS (rl_in (x := 3) (n := 6) (by decide) (by decide)) d_w_law_281 ?_
  refine lv_aload_n hx hb d_w_law_282 rfl (lv_at hl 4 rfl) ?_
  refine lv_iload hx hb d_w_law_283 (lv_at hl 0 rfl) ?_
  refine lv_iconst (v := 4) hx hb d_w_law_285 (by decide) ?_
  refine lv_iadd hx hb d_w_law_286 ?_
  refine lv_topi (fun v4 ev4 => ?_)
  obtain rfl : v4 = 4 := ev4.trans (by decide)
  refine va_sld hx hb hX hbl hbA hS (rl_in (x := 4) (n := 6) (by decide) (by decide)) d_w_law_287 ?_
  refine lv_aload_n hx hb d_w_law_288 rfl (lv_at hl 4 rfl) ?_
  refine lv_iload hx hb d_w_law_289 (lv_at hl 0 rfl) ?_
  refine lv_iconst (v := 5) hx hb d_w_law_291 (by decide) ?_
  refine lv_iadd hx hb d_w_law_292 ?_
  refine lv_topi (fun v5 ev5 => ?_)
  obtain rfl : v5 = 5 := ev5.trans (by decide)
  refine va_sld hx hb hX hbl hbA hS (rl_in (x := 5) (n := 6) (by decide) (by decide)) d_w_law_293 ?_
  have hpre := rl_BR.pre (av := .ref (a 0) :: [.int (xs (1 : Int32).toNatClampNeg), .int (xs (2 : Int32).toNatClampNeg), .int (xs (3 : Int32).toNatClampNeg), .int (xs (4 : Int32).toNatClampNeg), .int (xs (5 : Int32).toNatClampNeg)]) rl_nw0 (rl_P.l (rl_P.l hP)) hK2 rl_N0
  refine rl_callr hS (va_runV (As := [.int (xs (1 : Int32).toNatClampNeg), .int (xs (2 : Int32).toNatClampNeg), .int (xs (3 : Int32).toNatClampNeg), .int (xs (4 : Int32).toNatClampNeg), .int (xs (5 : Int32).toNatClampNeg)]) (rest := []) ⟨hx, hb, hml, hown, hG⟩ (k_x_licence l D a kI kZ (xs (1 : Int32).toNatClampNeg) (xs (2 : Int32).toNatClampNeg) (xs (3 : Int32).toNatClampNeg) (xs (4 : Int32).toNatClampNeg) (xs (5 : Int32).toNatClampNeg) _) (cwV 5 hG (rl_gV wd_232 wd_233 wd_234 wd_14 wd_235) rfl rfl rfl (by decide +kernel) ⟨Nat.le_of_ble_eq_true rfl, Nat.le_of_ble_eq_true rfl⟩) ⟨hpre.1, (va_recv hK (rl_P.l (rl_P.l hP)) (ci := 0) (q0 := 0) rfl rfl), hpre.2⟩ rfl rfl hl.1 rfl (lv_room (Nat.le_of_ble_eq_true rfl)) d_w_law_294 ⟨Nat.le_of_ble_eq_true rfl, Nat.le_of_ble_eq_true rfl⟩) (fun r6 locs h7 hS => ?_)
  refine lv_aload_n hx hb d_w_law_297 rfl (lv_at hl 2 rfl) ?_
  refine lv_aload_n hx hb d_w_law_298 rfl (lv_at hl 4 rfl) ?_
  refine lv_iload hx hb d_w_law_299 (lv_at hl 0 rfl) ?_
  refine lv_iconst (v := 1) hx hb d_w_law_301 (by decide) ?_
  refine lv_iadd hx hb d_w_law_302 ?_
  refine lv_topi (fun v8 ev8 => ?_)
  obtain rfl : v8 = 1 := ev8.trans (by decide)
  refine va_sld hx hb hX hbl hbA hS (rl_in (x := 1) (n := 6) (by decide) (by decide)) d_w_law_303 ?_
  refine lv_aload_n hx hb d_w_law_304 rfl (lv_at hl 4 rfl) ?_
  refine lv_iload hx hb d_w_law_305 (lv_at hl 0 rfl) ?_
  refine lv_iconst (v := 2) hx hb d_w_law_307 (by decide) ?_
  refine lv_iadd hx hb d_w_law_308 ?_
  refine lv_topi (fun v9 ev9 => ?_)
  obtain rfl : v9 = 2 := ev9.trans (by decide)
  refine va_sld hx hb hX hbl hbA hS (rl_in (x := 2) (n := 6) (by decide) (by decide)) d_w_law_309 ?_
  refine lv_aload_n hx hb d_w_law_310 rfl (lv_at hl 4 rfl) ?_
  refine lv_iload hx hb d_w_law_311 (lv_at hl 0 rfl) ?_
  refine lv_iconst (v := 3) hx hb d_w_law_313 (by decide) ?_
  refine lv_iadd hx hb d_w_law_314 ?_
  refine lv_topi (fun v10 ev10 => ?_)
  obtain rfl : v10 = 3 := ev10.trans (by decide)
  refine va_sld hx hb hX hbl hbA hS (rl_in (x := 3) (n := 6) (by decide) (by decide)) d_w_law_315 ?_
  refine lv_aload_n hx hb d_w_law_316 rfl (lv_at hl 4 rfl) ?_
  refine lv_iload hx hb d_w_law_317 (lv_at hl 0 rfl) ?_
  refine lv_iconst (v := 4) hx hb d_w_law_319 (by decide) ?_
  refine lv_iadd hx hb d_w_law_320 ?_
  refine lv_topi (fun v11 ev11 => ?_)
  obtain rfl : v11 = 4 := ev11.trans (by decide)
  refine va_sld hx hb hX hbl hbA hS (rl_in (x := 4) (n := 6) (by decide) (by decide)) d_w_law_321 ?_
  refine lv_aload_n hx hb d_w_law_322 rfl (lv_at hl 4 rfl) ?_
  refine lv_iload hx hb d_w_law_323 (lv_at hl 0 rfl) ?_
  refine lv_iconst (v := 5) hx hb d_w_law_325 (by decide) ?_
  refine lv_iadd hx hb d_w_law_326 ?_
  refine lv_topi (fun v12 ev12 => ?_)
  obtain rfl : v12 = 5 := ev12.trans (by decide)
  refine va_sld hx hb hX hbl hbA hS (rl_in (x := 5) (n := 6) (by decide) (by decide)) d_w_law_327 ?_
  have hpre := rl_B.pre (av := .ref (a2 0) :: [.int (xs (1 : Int32).toNatClampNeg), .int (xs (2 : Int32).toNatClampNeg), .int (xs (3 : Int32).toNatClampNeg), .int (xs (4 : Int32).toNatClampNeg), .int (xs (5 : Int32).toNatClampNeg)]) rl_nw0 (rl_P.r hP) hK2 (rl_D.r hD) rl_N0
  refine rl_calliR hP hD hS hA (va_runV (As := [.int (xs (1 : Int32).toNatClampNeg), .int (xs (2 : Int32).toNatClampNeg), .int (xs (3 : Int32).toNatClampNeg), .int (xs (4 : Int32).toNatClampNeg), .int (xs (5 : Int32).toNatClampNeg)]) (rest := [.int r6]) ⟨hx, hb, hml, hown, hG⟩ (k_m_licence l D a2 kI kZ (xs (1 : Int32).toNatClampNeg) (xs (2 : Int32).toNatClampNeg) (xs (3 : Int32).toNatClampNeg) (xs (4 : Int32).toNatClampNeg) (xs (5 : Int32).toNatClampNeg) _) (cwV 5 hG (rl_gV wd_606 wd_607 wd_608 wd_19 wd_609) rfl rfl rfl (by decide +kernel) ⟨Nat.le_of_ble_eq_true rfl, Nat.le_of_ble_eq_true rfl⟩) ⟨hpre.1, (va_recv hK (rl_P.r hP) (ci := 5) (q0 := 0) rfl rfl), hpre.2⟩ rfl rfl hl.1 rfl (lv_room (Nat.le_of_ble_eq_true rfl)) d_w_law_328 ⟨Nat.le_of_ble_eq_true rfl, Nat.le_of_ble_eq_true rfl⟩) (fun r13 F15 H locs h14 hP hD hS => ?_)
  have hP : va_P D rl_cl ((rl_w a kI kZ rl_F0 ++ rl_O kL q (fun _ => 0)) ++ rm_w a2 kI kZ F15) H := hP
  have hD : va_D (fun q : Nat => s.heap.size ≤ q) ((rl_w a kI kZ rl_F0 ++ rl_O kL q (fun _ => 0)) ++ rm_w a2 kI kZ F15) := hD
  refine lv_icmp_eq (tgt := 931) hx hb d_w_law_331 (by decide) (fun _ => ?_) (fun c9 => absurd (Int32.toInt_inj.mp (by omega)) c9)
  exact law_end hx hb hr hlocks hX hbl hS (Nat.le_of_ble_eq_true rfl) (Nat.le_of_ble_eq_true rfl) (lv_sub hl [0, 4] rfl)
set_option maxHeartbeats 4000000 in
set_option maxRecDepth 100000 in
theorem law_4 {p : Program} {l : Launch} {e : Env} {s : State} {m : MethodId} {below : List Frame} {meth : Method} {c : Code} {b : Nat} {xs : Nat → Int32} {D : va_G} {a a2 : Nat → Nat} {kI kZ kL : ClassId} {q : Nat} {H : Heap} {locs : List Loc} {ls : Array Slot} (C : lw_I p l s m meth c b xs D a a2 kI kZ kL q H locs ls) : W p l e room_1 s m #[Value.ref b] below meth c H locs 60 9971 (lw_Z below #[Value.ref b] s) (F0 m 336 ls []) := by
  obtain ⟨hx, hb, hr, hml, hown, hG, hlocks, hX, hbl, hK, hZ, hC, hlt, hP, hD, hS, hl⟩ := C
  have hA : ∀ q : Nat, s.heap.size ≤ q → (fun q : Nat => s.heap.size ≤ q) q := fun _ h => h
  have hbA : ¬ (fun q : Nat => s.heap.size ≤ q) b := Nat.not_le.mpr hbl
  have hK2 := hK.sub (tys' := rl_tys kI kZ) [0, 1] rfl
  refine lv_aload_n hx hb d_w_law_336 rfl (lv_at hl 3 rfl) ?_
  refine lv_aload_n hx hb d_w_law_337 rfl (lv_at hl 4 rfl) ?_
  refine lv_iload hx hb d_w_law_338 (lv_at hl 0 rfl) ?_
  refine lv_iconst (v := 1) hx hb d_w_law_340 (by decide) ?_
  refine lv_iadd hx hb d_w_law_341 ?_
  refine lv_topi (fun v1 ev1 => ?_)
  obtain rfl : v1 = 1 := ev1.trans (by decide)
  refine va_sld hx hb hX hbl hbA hS (rl_in (x := 1) (n := 6) (by decide) (by decide)) d_w_law_342 ?_
  refine lv_aload_n hx hb d_w_law_343 rfl (lv_at hl 4 rfl) ?_
  refine lv_iload hx hb d_w_law_344 (lv_at hl 0 rfl) ?_
  refine lv_iconst (v := 2) hx hb d_w_law_346 (by decide) ?_
  refine lv_iadd hx hb d_w_law_347 ?_
  refine lv_topi (fun v2 ev2 => ?_)
  obtain rfl : v2 = 2 := ev2.trans (by decide)
  refine va_sld hx hb hX hbl hbA hS (rl_in (x := 2) (n := 6) (by decide) (by decide)) d_w_law_348 ?_
  have hpre := rl_B.pre (av := .ref (a 0) :: [.int (xs (1 : Int32).toNatClampNeg), .int (xs (2 : Int32).toNatClampNeg)]) rl_nw0 (rl_P.l (rl_P.l hP)) hK2 (rl_D.l (rl_D.l hD)) rl_N0
  refine rl_calliL hP hD hS hA (va_runV (As := [.int (xs (1 : Int32).toNatClampNeg), .int (xs (2 : Int32).toNatClampNeg)]) (rest := []) ⟨hx, hb, hml, hown, hG⟩ (k_x_fee l D a kI kZ (xs (1 : Int32).toNatClampNeg) (xs (2 : Int32).toNatClampNeg) _) (cwV 2 hG (rl_gV wd_244 wd_245 wd_246 wd_14 wd_247) rfl rfl rfl (by decide +kernel) ⟨Nat.le_of_ble_eq_true rfl, Nat.le_of_ble_eq_true rfl⟩) ⟨hpre.1, (va_recv hK (rl_P.l (rl_P.l hP)) (ci := 0) (q0 := 0) rfl rfl), hpre.2⟩ rfl rfl hl.1 rfl (lv_room (Nat.le_of_ble_eq_true rfl)) d_w_law_349 ⟨Nat.le_of_ble_eq_true rfl, Nat.le_of_ble_eq_true rfl⟩) (fun r3 F5 H locs h4 hP hD hS => ?_)
  have hP : va_P D rl_cl ((rl_w a kI kZ F5 ++ rl_O kL q (fun _ => 0)) ++ rm_w a2 kI kZ rm_F0) H := hP
  have hD : va_D (fun q : Nat => s.heap.size ≤ q) ((rl_w a kI kZ F5 ++ rl_O kL q (fun _ => 0)) ++ rm_w a2 kI kZ rm_F0) := hD
  refine lv_aload_n hx hb d_w_law_352 rfl (lv_at hl 2 rfl) ?_
  refine lv_aload_n hx hb d_w_law_353 rfl (lv_at hl 4 rfl) ?_
  refine lv_iload hx hb d_w_law_354 (lv_at hl 0 rfl) ?_
  refine lv_iconst (v := 1) hx hb d_w_law_356 (by decide) ?_
  refine lv_iadd hx hb d_w_law_357 ?_
  refine lv_topi (fun v6 ev6 => ?_)
  obtain rfl : v6 = 1 := ev6.trans (by decide)
  refine va_sld hx hb hX hbl hbA hS (rl_in (x := 1) (n := 6) (by decide) (by decide)) d_w_law_358 ?_
  refine lv_aload_n hx hb d_w_law_359 rfl (lv_at hl 4 rfl) ?_
  refine lv_iload hx hb d_w_law_360 (lv_at hl 0 rfl) ?_
  refine lv_iconst (v := 2) hx hb d_w_law_362 (by decide) ?_
  refine lv_iadd hx hb d_w_law_363 ?_
  refine lv_topi (fun v7 ev7 => ?_)
  obtain rfl : v7 = 2 := ev7.trans (by decide)
  refine va_sld hx hb hX hbl hbA hS (rl_in (x := 2) (n := 6) (by decide) (by decide)) d_w_law_364 ?_
  have hpre := rl_B.pre (av := .ref (a2 0) :: [.int (xs (1 : Int32).toNatClampNeg), .int (xs (2 : Int32).toNatClampNeg)]) rl_nw0 (rl_P.r hP) hK2 (rl_D.r hD) rl_N0
  refine rl_calliR hP hD hS hA (va_runV (As := [.int (xs (1 : Int32).toNatClampNeg), .int (xs (2 : Int32).toNatClampNeg)]) (rest := [.int r3]) ⟨hx, hb, hml, hown, hG⟩ (k_m_fee l D a2 kI kZ (xs (1 : Int32).toNatClampNeg) (xs (2 : Int32).toNatClampNeg) _) (cwV 2 hG (rl_gV wd_611 wd_612 wd_613 wd_19 wd_614) rfl rfl rfl (by decide +kernel) ⟨Nat.le_of_ble_eq_true rfl, Nat.le_of_ble_eq_true rfl⟩) ⟨hpre.1, (va_recv hK (rl_P.r hP) (ci := 5) (q0 := 0) rfl rfl), hpre.2⟩ rfl rfl hl.1 rfl (lv_room (Nat.le_of_ble_eq_true rfl)) d_w_law_365 ⟨Nat.le_of_ble_eq_true rfl, Nat.le_of_ble_eq_true rfl⟩) (fun r8 F10 H locs h9 hP hD hS => ?_)
  have hP : va_P D rl_cl ((rl_w a kI kZ F5 ++ rl_O kL q (fun _ => 0)) ++ rm_w a2 kI kZ F10) H := hP
  have hD : va_D (fun q : Nat => s.heap.size ≤ q) ((rl_w a kI kZ F5 ++ rl_O kL q (fun _ => 0)) ++ rm_w a2 kI kZ F10) := hD
  refine lv_icmp_eq (tgt := 931) hx hb d_w_law_368 (by decide) (fun _ => ?_) (fun c9 => absurd (Int32.toInt_inj.mp (by omega)) c9)
  exact law_end hx hb hr hlocks hX hbl hS (Nat.le_of_ble_eq_true rfl) (Nat.le_of_ble_eq_true rfl) (lv_sub hl [0, 4] rfl)
set_option maxHeartbeats 4000000 in
set_option maxRecDepth 100000 in
theorem law_5 {p : Program} {l : Launch} {e : Env} {s : State} {m : MethodId} {below : List Frame} {meth : Method} {c : Code} {b : Nat} {xs : Nat → Int32} {D : va_G} {a a2 : Nat → Nat} {kI kZ kL : ClassId} {q : Nat} {H : Heap} {locs : List Loc} {ls : Array Slot} (C : lw_I p l s m meth c b xs D a a2 kI kZ kL q H locs ls) : W p l e room_1 s m #[Value.ref b] below meth c H locs 60 9971 (lw_Z below #[Value.ref b] s) (F0 m 373 ls []) := by
  obtain ⟨hx, hb, hr, hml, hown, hG, hlocks, hX, hbl, hK, hZ, hC, hlt, hP, hD, hS, hl⟩ := C
  have hA : ∀ q : Nat, s.heap.size ≤ q → (fun q : Nat => s.heap.size ≤ q) q := fun _ h => h
  have hbA : ¬ (fun q : Nat => s.heap.size ≤ q) b := Nat.not_le.mpr hbl
  have hK2 := hK.sub (tys' := rl_tys kI kZ) [0, 1] rfl
  refine lv_aload_n hx hb d_w_law_373 rfl (lv_at hl 3 rfl) ?_
  refine lv_aload_n hx hb d_w_law_374 rfl (lv_at hl 4 rfl) ?_
  refine lv_iload hx hb d_w_law_375 (lv_at hl 0 rfl) ?_
  refine lv_iconst (v := 1) hx hb d_w_law_377 (by decide) ?_
  refine lv_iadd hx hb d_w_law_378 ?_
  refine lv_topi (fun v1 ev1 => ?_)
  obtain rfl : v1 = 1 := ev1.trans (by decide)
  refine va_sld hx hb hX hbl hbA hS (rl_in (x := 1) (n := 6) (by decide) (by decide)) d_w_law_379 ?_
  refine lv_aload_n hx hb d_w_law_380 rfl (lv_at hl 4 rfl) ?_
  refine lv_iload hx hb d_w_law_381 (lv_at hl 0 rfl) ?_
  refine lv_iconst (v := 2) hx hb d_w_law_383 (by decide) ?_
  refine lv_iadd hx hb d_w_law_384 ?_
  refine lv_topi (fun v2 ev2 => ?_)
  obtain rfl : v2 = 2 := ev2.trans (by decide)
  refine va_sld hx hb hX hbl hbA hS (rl_in (x := 2) (n := 6) (by decide) (by decide)) d_w_law_385 ?_
  refine lv_aload_n hx hb d_w_law_386 rfl (lv_at hl 4 rfl) ?_
  refine lv_iload hx hb d_w_law_387 (lv_at hl 0 rfl) ?_
  refine lv_iconst (v := 3) hx hb d_w_law_389 (by decide) ?_
  refine lv_iadd hx hb d_w_law_390 ?_
  refine lv_topi (fun v3 ev3 => ?_)
  obtain rfl : v3 = 3 := ev3.trans (by decide)
  refine va_sld hx hb hX hbl hbA hS (rl_in (x := 3) (n := 6) (by decide) (by decide)) d_w_law_391 ?_
  refine lv_aload_n hx hb d_w_law_392 rfl (lv_at hl 4 rfl) ?_
  refine lv_iload hx hb d_w_law_393 (lv_at hl 0 rfl) ?_
  refine lv_iconst (v := 4) hx hb d_w_law_395 (by decide) ?_
  refine lv_iadd hx hb d_w_law_396 ?_
  refine lv_topi (fun v4 ev4 => ?_)
  obtain rfl : v4 = 4 := ev4.trans (by decide)
  refine va_sld hx hb hX hbl hbA hS (rl_in (x := 4) (n := 6) (by decide) (by decide)) d_w_law_397 ?_
  refine lv_aload_n hx hb d_w_law_398 rfl (lv_at hl 4 rfl) ?_
  refine lv_iload hx hb d_w_law_399 (lv_at hl 0 rfl) ?_
  refine lv_iconst (v := 5) hx hb d_w_law_401 (by decide) ?_
  refine lv_iadd hx hb d_w_law_402 ?_
  refine lv_topi (fun v5 ev5 => ?_)
  obtain rfl : v5 = 5 := ev5.trans (by decide)
  refine va_sld hx hb hX hbl hbA hS (rl_in (x := 5) (n := 6) (by decide) (by decide)) d_w_law_403 ?_
  have hpre := rl_BR.pre (av := .ref (a 0) :: [.int (xs (1 : Int32).toNatClampNeg), .int (xs (2 : Int32).toNatClampNeg), .int (xs (3 : Int32).toNatClampNeg), .int (xs (4 : Int32).toNatClampNeg), .int (xs (5 : Int32).toNatClampNeg)]) rl_nw0 (rl_P.l (rl_P.l hP)) hK2 rl_N0
  refine rl_callr hS (va_runV (As := [.int (xs (1 : Int32).toNatClampNeg), .int (xs (2 : Int32).toNatClampNeg), .int (xs (3 : Int32).toNatClampNeg), .int (xs (4 : Int32).toNatClampNeg), .int (xs (5 : Int32).toNatClampNeg)]) (rest := []) ⟨hx, hb, hml, hown, hG⟩ (k_x_ask l D a kI kZ (xs (1 : Int32).toNatClampNeg) (xs (2 : Int32).toNatClampNeg) (xs (3 : Int32).toNatClampNeg) (xs (4 : Int32).toNatClampNeg) (xs (5 : Int32).toNatClampNeg) _) (cwV 5 hG (rl_gV wd_248 wd_249 wd_250 wd_14 wd_251) rfl rfl rfl (by decide +kernel) ⟨Nat.le_of_ble_eq_true rfl, Nat.le_of_ble_eq_true rfl⟩) ⟨hpre.1, (va_recv hK (rl_P.l (rl_P.l hP)) (ci := 0) (q0 := 0) rfl rfl), hpre.2⟩ rfl rfl hl.1 rfl (lv_room (Nat.le_of_ble_eq_true rfl)) d_w_law_404 ⟨Nat.le_of_ble_eq_true rfl, Nat.le_of_ble_eq_true rfl⟩) (fun r6 locs h7 hS => ?_)
  refine lv_aload_n hx hb d_w_law_407 rfl (lv_at hl 2 rfl) ?_
  refine lv_aload_n hx hb d_w_law_408 rfl (lv_at hl 4 rfl) ?_
  refine lv_iload hx hb d_w_law_409 (lv_at hl 0 rfl) ?_
  refine lv_iconst (v := 1) hx hb d_w_law_411 (by decide) ?_
  refine lv_iadd hx hb d_w_law_412 ?_
  refine lv_topi (fun v8 ev8 => ?_)
  obtain rfl : v8 = 1 := ev8.trans (by decide)
  refine va_sld hx hb hX hbl hbA hS (rl_in (x := 1) (n := 6) (by decide) (by decide)) d_w_law_413 ?_
  refine lv_aload_n hx hb d_w_law_414 rfl (lv_at hl 4 rfl) ?_
  refine lv_iload hx hb d_w_law_415 (lv_at hl 0 rfl) ?_
  refine lv_iconst (v := 2) hx hb d_w_law_417 (by decide) ?_
  refine lv_iadd hx hb d_w_law_418 ?_
  refine lv_topi (fun v9 ev9 => ?_)
  obtain rfl : v9 = 2 := ev9.trans (by decide)
  refine va_sld hx hb hX hbl hbA hS (rl_in (x := 2) (n := 6) (by decide) (by decide)) d_w_law_419 ?_
  refine lv_aload_n hx hb d_w_law_420 rfl (lv_at hl 4 rfl) ?_
  refine lv_iload hx hb d_w_law_421 (lv_at hl 0 rfl) ?_
  refine lv_iconst (v := 3) hx hb d_w_law_423 (by decide) ?_
  refine lv_iadd hx hb d_w_law_424 ?_
  refine lv_topi (fun v10 ev10 => ?_)
  obtain rfl : v10 = 3 := ev10.trans (by decide)
  refine va_sld hx hb hX hbl hbA hS (rl_in (x := 3) (n := 6) (by decide) (by decide)) d_w_law_425 ?_
  refine lv_aload_n hx hb d_w_law_426 rfl (lv_at hl 4 rfl) ?_
  refine lv_iload hx hb d_w_law_427 (lv_at hl 0 rfl) ?_
  refine lv_iconst (v := 4) hx hb d_w_law_429 (by decide) ?_
  refine lv_iadd hx hb d_w_law_430 ?_
  refine lv_topi (fun v11 ev11 => ?_)
  obtain rfl : v11 = 4 := ev11.trans (by decide)
  refine va_sld hx hb hX hbl hbA hS (rl_in (x := 4) (n := 6) (by decide) (by decide)) d_w_law_431 ?_
  refine lv_aload_n hx hb d_w_law_432 rfl (lv_at hl 4 rfl) ?_
  refine lv_iload hx hb d_w_law_433 (lv_at hl 0 rfl) ?_
  refine lv_iconst (v := 5) hx hb d_w_law_435 (by decide) ?_
  refine lv_iadd hx hb d_w_law_436 ?_
  refine lv_topi (fun v12 ev12 => ?_)
  obtain rfl : v12 = 5 := ev12.trans (by decide)
  refine va_sld hx hb hX hbl hbA hS (rl_in (x := 5) (n := 6) (by decide) (by decide)) d_w_law_437 ?_
  have hpre := rl_B.pre (av := .ref (a2 0) :: [.int (xs (1 : Int32).toNatClampNeg), .int (xs (2 : Int32).toNatClampNeg), .int (xs (3 : Int32).toNatClampNeg), .int (xs (4 : Int32).toNatClampNeg), .int (xs (5 : Int32).toNatClampNeg)]) rl_nw0 (rl_P.r hP) hK2 (rl_D.r hD) rl_N0
  refine rl_calliR hP hD hS hA (va_runV (As := [.int (xs (1 : Int32).toNatClampNeg), .int (xs (2 : Int32).toNatClampNeg), .int (xs (3 : Int32).toNatClampNeg), .int (xs (4 : Int32).toNatClampNeg), .int (xs (5 : Int32).toNatClampNeg)]) (rest := [.int r6]) ⟨hx, hb, hml, hown, hG⟩ (k_m_ask l D a2 kI kZ (xs (1 : Int32).toNatClampNeg) (xs (2 : Int32).toNatClampNeg) (xs (3 : Int32).toNatClampNeg) (xs (4 : Int32).toNatClampNeg) (xs (5 : Int32).toNatClampNeg) _) (cwV 5 hG (rl_gV wd_615 wd_616 wd_617 wd_19 wd_618) rfl rfl rfl (by decide +kernel) ⟨Nat.le_of_ble_eq_true rfl, Nat.le_of_ble_eq_true rfl⟩) ⟨hpre.1, (va_recv hK (rl_P.r hP) (ci := 5) (q0 := 0) rfl rfl), hpre.2⟩ rfl rfl hl.1 rfl (lv_room (Nat.le_of_ble_eq_true rfl)) d_w_law_438 ⟨Nat.le_of_ble_eq_true rfl, Nat.le_of_ble_eq_true rfl⟩) (fun r13 F15 H locs h14 hP hD hS => ?_)
  have hP : va_P D rl_cl ((rl_w a kI kZ rl_F0 ++ rl_O kL q (fun _ => 0)) ++ rm_w a2 kI kZ F15) H := hP
  have hD : va_D (fun q : Nat => s.heap.size ≤ q) ((rl_w a kI kZ rl_F0 ++ rl_O kL q (fun _ => 0)) ++ rm_w a2 kI kZ F15) := hD
  refine lv_icmp_eq (tgt := 931) hx hb d_w_law_441 (by decide) (fun _ => ?_) (fun c9 => absurd (Int32.toInt_inj.mp (by omega)) c9)
  exact law_end hx hb hr hlocks hX hbl hS (Nat.le_of_ble_eq_true rfl) (Nat.le_of_ble_eq_true rfl) (lv_sub hl [0, 4] rfl)
set_option maxHeartbeats 4000000 in
set_option maxRecDepth 100000 in
theorem law_6 {p : Program} {l : Launch} {e : Env} {s : State} {m : MethodId} {below : List Frame} {meth : Method} {c : Code} {b : Nat} {xs : Nat → Int32} {D : va_G} {a a2 : Nat → Nat} {kI kZ kL : ClassId} {q : Nat} {H : Heap} {locs : List Loc} {ls : Array Slot} (C : lw_I p l s m meth c b xs D a a2 kI kZ kL q H locs ls) : W p l e room_1 s m #[Value.ref b] below meth c H locs 60 9971 (lw_Z below #[Value.ref b] s) (F0 m 446 ls []) := by
  obtain ⟨hx, hb, hr, hml, hown, hG, hlocks, hX, hbl, hK, hZ, hC, hlt, hP, hD, hS, hl⟩ := C
  have hA : ∀ q : Nat, s.heap.size ≤ q → (fun q : Nat => s.heap.size ≤ q) q := fun _ h => h
  have hbA : ¬ (fun q : Nat => s.heap.size ≤ q) b := Nat.not_le.mpr hbl
  have hK2 := hK.sub (tys' := rl_tys kI kZ) [0, 1] rfl
  refine lv_aload_n hx hb d_w_law_446 rfl (lv_at hl 3 rfl) ?_
  have hpre := rl_BR.pre (av := .ref (a 0) :: []) rl_nw0 (rl_P.l (rl_P.l hP)) hK2 rl_N0
  refine rl_callr hS (va_runV (As := []) (rest := []) ⟨hx, hb, hml, hown, hG⟩ (k_x_why l D a kI kZ _) (cwV 0 hG (rl_gV wd_307 wd_308 wd_309 wd_14 wd_310) rfl rfl rfl (by decide +kernel) ⟨Nat.le_of_ble_eq_true rfl, Nat.le_of_ble_eq_true rfl⟩) ⟨hpre.1, (va_recv hK (rl_P.l (rl_P.l hP)) (ci := 0) (q0 := 0) rfl rfl), hpre.2⟩ rfl rfl hl.1 rfl (lv_room (Nat.le_of_ble_eq_true rfl)) d_w_law_447 ⟨Nat.le_of_ble_eq_true rfl, Nat.le_of_ble_eq_true rfl⟩) (fun r1 locs h2 hS => ?_)
  refine lv_aload_n hx hb d_w_law_450 rfl (lv_at hl 2 rfl) ?_
  have hpre := rl_B.pre (av := .ref (a2 0) :: []) rl_nw0 (rl_P.r hP) hK2 (rl_D.r hD) rl_N0
  refine rl_calliR hP hD hS hA (va_runV (As := []) (rest := [.int r1]) ⟨hx, hb, hml, hown, hG⟩ (k_m_why l D a2 kI kZ _) (cwV 0 hG (rl_gV wd_641 wd_642 wd_643 wd_19 wd_644) rfl rfl rfl (by decide +kernel) ⟨Nat.le_of_ble_eq_true rfl, Nat.le_of_ble_eq_true rfl⟩) ⟨hpre.1, (va_recv hK (rl_P.r hP) (ci := 5) (q0 := 0) rfl rfl), hpre.2⟩ rfl rfl hl.1 rfl (lv_room (Nat.le_of_ble_eq_true rfl)) d_w_law_451 ⟨Nat.le_of_ble_eq_true rfl, Nat.le_of_ble_eq_true rfl⟩) (fun r3 F5 H locs h4 hP hD hS => ?_)
  have hP : va_P D rl_cl ((rl_w a kI kZ rl_F0 ++ rl_O kL q (fun _ => 0)) ++ rm_w a2 kI kZ F5) H := hP
  have hD : va_D (fun q : Nat => s.heap.size ≤ q) ((rl_w a kI kZ rl_F0 ++ rl_O kL q (fun _ => 0)) ++ rm_w a2 kI kZ F5) := hD
  refine lv_icmp_eq (tgt := 931) hx hb d_w_law_454 (by decide) (fun _ => ?_) (fun c9 => absurd (Int32.toInt_inj.mp (by omega)) c9)
  exact law_end hx hb hr hlocks hX hbl hS (Nat.le_of_ble_eq_true rfl) (Nat.le_of_ble_eq_true rfl) (lv_sub hl [0, 4] rfl)
set_option maxHeartbeats 4000000 in
set_option maxRecDepth 100000 in
theorem law_7 {p : Program} {l : Launch} {e : Env} {s : State} {m : MethodId} {below : List Frame} {meth : Method} {c : Code} {b : Nat} {xs : Nat → Int32} {D : va_G} {a a2 : Nat → Nat} {kI kZ kL : ClassId} {q : Nat} {H : Heap} {locs : List Loc} {ls : Array Slot} (C : lw_I p l s m meth c b xs D a a2 kI kZ kL q H locs ls) : W p l e room_1 s m #[Value.ref b] below meth c H locs 60 9971 (lw_Z below #[Value.ref b] s) (F0 m 459 ls []) := by
  obtain ⟨hx, hb, hr, hml, hown, hG, hlocks, hX, hbl, hK, hZ, hC, hlt, hP, hD, hS, hl⟩ := C
  have hA : ∀ q : Nat, s.heap.size ≤ q → (fun q : Nat => s.heap.size ≤ q) q := fun _ h => h
  have hbA : ¬ (fun q : Nat => s.heap.size ≤ q) b := Nat.not_le.mpr hbl
  have hK2 := hK.sub (tys' := rl_tys kI kZ) [0, 1] rfl
  refine lv_aload_n hx hb d_w_law_459 rfl (lv_at hl 3 rfl) ?_
  refine lv_aload_n hx hb d_w_law_460 rfl (lv_at hl 4 rfl) ?_
  refine lv_iload hx hb d_w_law_461 (lv_at hl 0 rfl) ?_
  refine lv_iconst (v := 1) hx hb d_w_law_463 (by decide) ?_
  refine lv_iadd hx hb d_w_law_464 ?_
  refine lv_topi (fun v1 ev1 => ?_)
  obtain rfl : v1 = 1 := ev1.trans (by decide)
  refine va_sld hx hb hX hbl hbA hS (rl_in (x := 1) (n := 6) (by decide) (by decide)) d_w_law_465 ?_
  refine lv_aload_n hx hb d_w_law_466 rfl (lv_at hl 4 rfl) ?_
  refine lv_iload hx hb d_w_law_467 (lv_at hl 0 rfl) ?_
  refine lv_iconst (v := 2) hx hb d_w_law_469 (by decide) ?_
  refine lv_iadd hx hb d_w_law_470 ?_
  refine lv_topi (fun v2 ev2 => ?_)
  obtain rfl : v2 = 2 := ev2.trans (by decide)
  refine va_sld hx hb hX hbl hbA hS (rl_in (x := 2) (n := 6) (by decide) (by decide)) d_w_law_471 ?_
  refine lv_aload_n hx hb d_w_law_472 rfl (lv_at hl 4 rfl) ?_
  refine lv_iload hx hb d_w_law_473 (lv_at hl 0 rfl) ?_
  refine lv_iconst (v := 3) hx hb d_w_law_475 (by decide) ?_
  refine lv_iadd hx hb d_w_law_476 ?_
  refine lv_topi (fun v3 ev3 => ?_)
  obtain rfl : v3 = 3 := ev3.trans (by decide)
  refine va_sld hx hb hX hbl hbA hS (rl_in (x := 3) (n := 6) (by decide) (by decide)) d_w_law_477 ?_
  refine lv_if_eq (tgt := 485) hx hb d_w_law_478 (by decide) (fun _ => ?_) (fun _ => ?_)
  · refine lv_iconst (v := 0) hx hb d_w_law_485 (by decide) ?_
    have hpre := rl_B.pre (av := .ref (a 0) :: [.int (xs (1 : Int32).toNatClampNeg), .int (xs (2 : Int32).toNatClampNeg), .int 0]) rl_nw0 (rl_P.l (rl_P.l hP)) hK2 (rl_D.l (rl_D.l hD)) rl_N0
    refine rl_calliL hP hD hS hA (va_runV (As := [.int (xs (1 : Int32).toNatClampNeg), .int (xs (2 : Int32).toNatClampNeg), .int 0]) (rest := []) ⟨hx, hb, hml, hown, hG⟩ (k_x_give l D a kI kZ (xs (1 : Int32).toNatClampNeg) (xs (2 : Int32).toNatClampNeg) 0 _) (cwV 3 hG (rl_gV wd_311 wd_312 wd_313 wd_14 wd_314) rfl rfl rfl (by decide +kernel) ⟨Nat.le_of_ble_eq_true rfl, Nat.le_of_ble_eq_true rfl⟩) ⟨hpre.1, (va_recv hK (rl_P.l (rl_P.l hP)) (ci := 0) (q0 := 0) rfl rfl), hpre.2⟩ rfl rfl hl.1 rfl (lv_room (Nat.le_of_ble_eq_true rfl)) d_w_law_486 ⟨Nat.le_of_ble_eq_true rfl, Nat.le_of_ble_eq_true rfl⟩) (fun r4 F6 H locs h5 hP hD hS => ?_)
    have hP : va_P D rl_cl ((rl_w a kI kZ F6 ++ rl_O kL q (fun _ => 0)) ++ rm_w a2 kI kZ rm_F0) H := hP
    have hD : va_D (fun q : Nat => s.heap.size ≤ q) ((rl_w a kI kZ F6 ++ rl_O kL q (fun _ => 0)) ++ rm_w a2 kI kZ rm_F0) := hD
    refine lv_aload_n hx hb d_w_law_489 rfl (lv_at hl 2 rfl) ?_
    refine lv_aload_n hx hb d_w_law_490 rfl (lv_at hl 4 rfl) ?_
    refine lv_iload hx hb d_w_law_491 (lv_at hl 0 rfl) ?_
    refine lv_iconst (v := 1) hx hb d_w_law_493 (by decide) ?_
    refine lv_iadd hx hb d_w_law_494 ?_
    refine lv_topi (fun v7 ev7 => ?_)
    obtain rfl : v7 = 1 := ev7.trans (by decide)
    refine va_sld hx hb hX hbl hbA hS (rl_in (x := 1) (n := 6) (by decide) (by decide)) d_w_law_495 ?_
    refine lv_aload_n hx hb d_w_law_496 rfl (lv_at hl 4 rfl) ?_
    refine lv_iload hx hb d_w_law_497 (lv_at hl 0 rfl) ?_
    refine lv_iconst (v := 2) hx hb d_w_law_499 (by decide) ?_
    refine lv_iadd hx hb d_w_law_500 ?_
    refine lv_topi (fun v8 ev8 => ?_)
    obtain rfl : v8 = 2 := ev8.trans (by decide)
    refine va_sld hx hb hX hbl hbA hS (rl_in (x := 2) (n := 6) (by decide) (by decide)) d_w_law_501 ?_
    refine lv_aload_n hx hb d_w_law_502 rfl (lv_at hl 4 rfl) ?_
    refine lv_iload hx hb d_w_law_503 (lv_at hl 0 rfl) ?_
    refine lv_iconst (v := 3) hx hb d_w_law_505 (by decide) ?_
    refine lv_iadd hx hb d_w_law_506 ?_
    refine lv_topi (fun v9 ev9 => ?_)
    obtain rfl : v9 = 3 := ev9.trans (by decide)
    refine va_sld hx hb hX hbl hbA hS (rl_in (x := 3) (n := 6) (by decide) (by decide)) d_w_law_507 ?_
    refine lv_if_eq (tgt := 515) hx hb d_w_law_508 (by decide) (fun _ => ?_) (fun _ => ?_)
    · refine lv_iconst (v := 0) hx hb d_w_law_515 (by decide) ?_
      have hpre := rl_B.pre (av := .ref (a2 0) :: [.int (xs (1 : Int32).toNatClampNeg), .int (xs (2 : Int32).toNatClampNeg), .int 0]) rl_nw0 (rl_P.r hP) hK2 (rl_D.r hD) rl_N0
      refine rl_calliR hP hD hS hA (va_runV (As := [.int (xs (1 : Int32).toNatClampNeg), .int (xs (2 : Int32).toNatClampNeg), .int 0]) (rest := [.int r4]) ⟨hx, hb, hml, hown, hG⟩ (k_m_give l D a2 kI kZ (xs (1 : Int32).toNatClampNeg) (xs (2 : Int32).toNatClampNeg) 0 _) (cwV 3 hG (rl_gV wd_645 wd_646 wd_647 wd_19 wd_648) rfl rfl rfl (by decide +kernel) ⟨Nat.le_of_ble_eq_true rfl, Nat.le_of_ble_eq_true rfl⟩) ⟨hpre.1, (va_recv hK (rl_P.r hP) (ci := 5) (q0 := 0) rfl rfl), hpre.2⟩ rfl rfl hl.1 rfl (lv_room (Nat.le_of_ble_eq_true rfl)) d_w_law_516 ⟨Nat.le_of_ble_eq_true rfl, Nat.le_of_ble_eq_true rfl⟩) (fun r10 F12 H locs h11 hP hD hS => ?_)
      have hP : va_P D rl_cl ((rl_w a kI kZ F6 ++ rl_O kL q (fun _ => 0)) ++ rm_w a2 kI kZ F12) H := hP
      have hD : va_D (fun q : Nat => s.heap.size ≤ q) ((rl_w a kI kZ F6 ++ rl_O kL q (fun _ => 0)) ++ rm_w a2 kI kZ F12) := hD
      refine lv_icmp_eq (tgt := 931) hx hb d_w_law_519 (by decide) (fun _ => ?_) (fun c9 => absurd (Int32.toInt_inj.mp (by omega)) c9)
      exact law_end hx hb hr hlocks hX hbl hS (Nat.le_of_ble_eq_true rfl) (Nat.le_of_ble_eq_true rfl) (lv_sub hl [0, 4] rfl)
    · refine lv_iconst (v := 1) hx hb d_w_law_511 (by decide) ?_
      refine lv_goto (tgt := 516) hx hb d_w_law_512 (by decide) ?_
      have hpre := rl_B.pre (av := .ref (a2 0) :: [.int (xs (1 : Int32).toNatClampNeg), .int (xs (2 : Int32).toNatClampNeg), .int 1]) rl_nw0 (rl_P.r hP) hK2 (rl_D.r hD) rl_N0
      refine rl_calliR hP hD hS hA (va_runV (As := [.int (xs (1 : Int32).toNatClampNeg), .int (xs (2 : Int32).toNatClampNeg), .int 1]) (rest := [.int r4]) ⟨hx, hb, hml, hown, hG⟩ (k_m_give l D a2 kI kZ (xs (1 : Int32).toNatClampNeg) (xs (2 : Int32).toNatClampNeg) 1 _) (cwV 3 hG (rl_gV wd_645 wd_646 wd_647 wd_19 wd_648) rfl rfl rfl (by decide +kernel) ⟨Nat.le_of_ble_eq_true rfl, Nat.le_of_ble_eq_true rfl⟩) ⟨hpre.1, (va_recv hK (rl_P.r hP) (ci := 5) (q0 := 0) rfl rfl), hpre.2⟩ rfl rfl hl.1 rfl (lv_room (Nat.le_of_ble_eq_true rfl)) d_w_law_516 ⟨Nat.le_of_ble_eq_true rfl, Nat.le_of_ble_eq_true rfl⟩) (fun r13 F15 H locs h14 hP hD hS => ?_)
      have hP : va_P D rl_cl ((rl_w a kI kZ F6 ++ rl_O kL q (fun _ => 0)) ++ rm_w a2 kI kZ F15) H := hP
      have hD : va_D (fun q : Nat => s.heap.size ≤ q) ((rl_w a kI kZ F6 ++ rl_O kL q (fun _ => 0)) ++ rm_w a2 kI kZ F15) := hD
      refine lv_icmp_eq (tgt := 931) hx hb d_w_law_519 (by decide) (fun _ => ?_) (fun c9 => absurd (Int32.toInt_inj.mp (by omega)) c9)
      exact law_end hx hb hr hlocks hX hbl hS (Nat.le_of_ble_eq_true rfl) (Nat.le_of_ble_eq_true rfl) (lv_sub hl [0, 4] rfl)
  · refine lv_iconst (v := 1) hx hb d_w_law_481 (by decide) ?_
    refine lv_goto (tgt := 486) hx hb d_w_law_482 (by decide) ?_
    have hpre := rl_B.pre (av := .ref (a 0) :: [.int (xs (1 : Int32).toNatClampNeg), .int (xs (2 : Int32).toNatClampNeg), .int 1]) rl_nw0 (rl_P.l (rl_P.l hP)) hK2 (rl_D.l (rl_D.l hD)) rl_N0
    refine rl_calliL hP hD hS hA (va_runV (As := [.int (xs (1 : Int32).toNatClampNeg), .int (xs (2 : Int32).toNatClampNeg), .int 1]) (rest := []) ⟨hx, hb, hml, hown, hG⟩ (k_x_give l D a kI kZ (xs (1 : Int32).toNatClampNeg) (xs (2 : Int32).toNatClampNeg) 1 _) (cwV 3 hG (rl_gV wd_311 wd_312 wd_313 wd_14 wd_314) rfl rfl rfl (by decide +kernel) ⟨Nat.le_of_ble_eq_true rfl, Nat.le_of_ble_eq_true rfl⟩) ⟨hpre.1, (va_recv hK (rl_P.l (rl_P.l hP)) (ci := 0) (q0 := 0) rfl rfl), hpre.2⟩ rfl rfl hl.1 rfl (lv_room (Nat.le_of_ble_eq_true rfl)) d_w_law_486 ⟨Nat.le_of_ble_eq_true rfl, Nat.le_of_ble_eq_true rfl⟩) (fun r16 F18 H locs h17 hP hD hS => ?_)
    have hP : va_P D rl_cl ((rl_w a kI kZ F18 ++ rl_O kL q (fun _ => 0)) ++ rm_w a2 kI kZ rm_F0) H := hP
    have hD : va_D (fun q : Nat => s.heap.size ≤ q) ((rl_w a kI kZ F18 ++ rl_O kL q (fun _ => 0)) ++ rm_w a2 kI kZ rm_F0) := hD
    refine lv_aload_n hx hb d_w_law_489 rfl (lv_at hl 2 rfl) ?_
    refine lv_aload_n hx hb d_w_law_490 rfl (lv_at hl 4 rfl) ?_
    refine lv_iload hx hb d_w_law_491 (lv_at hl 0 rfl) ?_
    refine lv_iconst (v := 1) hx hb d_w_law_493 (by decide) ?_
    refine lv_iadd hx hb d_w_law_494 ?_
    refine lv_topi (fun v19 ev19 => ?_)
    obtain rfl : v19 = 1 := ev19.trans (by decide)
    refine va_sld hx hb hX hbl hbA hS (rl_in (x := 1) (n := 6) (by decide) (by decide)) d_w_law_495 ?_
    refine lv_aload_n hx hb d_w_law_496 rfl (lv_at hl 4 rfl) ?_
    refine lv_iload hx hb d_w_law_497 (lv_at hl 0 rfl) ?_
    refine lv_iconst (v := 2) hx hb d_w_law_499 (by decide) ?_
    refine lv_iadd hx hb d_w_law_500 ?_
    refine lv_topi (fun v20 ev20 => ?_)
    obtain rfl : v20 = 2 := ev20.trans (by decide)
    refine va_sld hx hb hX hbl hbA hS (rl_in (x := 2) (n := 6) (by decide) (by decide)) d_w_law_501 ?_
    refine lv_aload_n hx hb d_w_law_502 rfl (lv_at hl 4 rfl) ?_
    refine lv_iload hx hb d_w_law_503 (lv_at hl 0 rfl) ?_
    refine lv_iconst (v := 3) hx hb d_w_law_505 (by decide) ?_
    refine lv_iadd hx hb d_w_law_506 ?_
    refine lv_topi (fun v21 ev21 => ?_)
    obtain rfl : v21 = 3 := ev21.trans (by decide)
    refine va_sld hx hb hX hbl hbA hS (rl_in (x := 3) (n := 6) (by decide) (by decide)) d_w_law_507 ?_
    refine lv_if_eq (tgt := 515) hx hb d_w_law_508 (by decide) (fun _ => ?_) (fun _ => ?_)
    · refine lv_iconst (v := 0) hx hb d_w_law_515 (by decide) ?_
      have hpre := rl_B.pre (av := .ref (a2 0) :: [.int (xs (1 : Int32).toNatClampNeg), .int (xs (2 : Int32).toNatClampNeg), .int 0]) rl_nw0 (rl_P.r hP) hK2 (rl_D.r hD) rl_N0
      refine rl_calliR hP hD hS hA (va_runV (As := [.int (xs (1 : Int32).toNatClampNeg), .int (xs (2 : Int32).toNatClampNeg), .int 0]) (rest := [.int r16]) ⟨hx, hb, hml, hown, hG⟩ (k_m_give l D a2 kI kZ (xs (1 : Int32).toNatClampNeg) (xs (2 : Int32).toNatClampNeg) 0 _) (cwV 3 hG (rl_gV wd_645 wd_646 wd_647 wd_19 wd_648) rfl rfl rfl (by decide +kernel) ⟨Nat.le_of_ble_eq_true rfl, Nat.le_of_ble_eq_true rfl⟩) ⟨hpre.1, (va_recv hK (rl_P.r hP) (ci := 5) (q0 := 0) rfl rfl), hpre.2⟩ rfl rfl hl.1 rfl (lv_room (Nat.le_of_ble_eq_true rfl)) d_w_law_516 ⟨Nat.le_of_ble_eq_true rfl, Nat.le_of_ble_eq_true rfl⟩) (fun r22 F24 H locs h23 hP hD hS => ?_)
      have hP : va_P D rl_cl ((rl_w a kI kZ F18 ++ rl_O kL q (fun _ => 0)) ++ rm_w a2 kI kZ F24) H := hP
      have hD : va_D (fun q : Nat => s.heap.size ≤ q) ((rl_w a kI kZ F18 ++ rl_O kL q (fun _ => 0)) ++ rm_w a2 kI kZ F24) := hD
      refine lv_icmp_eq (tgt := 931) hx hb d_w_law_519 (by decide) (fun _ => ?_) (fun c9 => absurd (Int32.toInt_inj.mp (by omega)) c9)
      exact law_end hx hb hr hlocks hX hbl hS (Nat.le_of_ble_eq_true rfl) (Nat.le_of_ble_eq_true rfl) (lv_sub hl [0, 4] rfl)
    · refine lv_iconst (v := 1) hx hb d_w_law_511 (by decide) ?_
      refine lv_goto (tgt := 516) hx hb d_w_law_512 (by decide) ?_
      have hpre := rl_B.pre (av := .ref (a2 0) :: [.int (xs (1 : Int32).toNatClampNeg), .int (xs (2 : Int32).toNatClampNeg), .int 1]) rl_nw0 (rl_P.r hP) hK2 (rl_D.r hD) rl_N0
      refine rl_calliR hP hD hS hA (va_runV (As := [.int (xs (1 : Int32).toNatClampNeg), .int (xs (2 : Int32).toNatClampNeg), .int 1]) (rest := [.int r16]) ⟨hx, hb, hml, hown, hG⟩ (k_m_give l D a2 kI kZ (xs (1 : Int32).toNatClampNeg) (xs (2 : Int32).toNatClampNeg) 1 _) (cwV 3 hG (rl_gV wd_645 wd_646 wd_647 wd_19 wd_648) rfl rfl rfl (by decide +kernel) ⟨Nat.le_of_ble_eq_true rfl, Nat.le_of_ble_eq_true rfl⟩) ⟨hpre.1, (va_recv hK (rl_P.r hP) (ci := 5) (q0 := 0) rfl rfl), hpre.2⟩ rfl rfl hl.1 rfl (lv_room (Nat.le_of_ble_eq_true rfl)) d_w_law_516 ⟨Nat.le_of_ble_eq_true rfl, Nat.le_of_ble_eq_true rfl⟩) (fun r25 F27 H locs h26 hP hD hS => ?_)
      have hP : va_P D rl_cl ((rl_w a kI kZ F18 ++ rl_O kL q (fun _ => 0)) ++ rm_w a2 kI kZ F27) H := hP
      have hD : va_D (fun q : Nat => s.heap.size ≤ q) ((rl_w a kI kZ F18 ++ rl_O kL q (fun _ => 0)) ++ rm_w a2 kI kZ F27) := hD
      refine lv_icmp_eq (tgt := 931) hx hb d_w_law_519 (by decide) (fun _ => ?_) (fun c9 => absurd (Int32.toInt_inj.mp (by omega)) c9)
      exact law_end hx hb hr hlocks hX hbl hS (Nat.le_of_ble_eq_true rfl) (Nat.le_of_ble_eq_true rfl) (lv_sub hl [0, 4] rfl)
set_option maxHeartbeats 4000000 in
set_option maxRecDepth 100000 in
theorem law_8 {p : Program} {l : Launch} {e : Env} {s : State} {m : MethodId} {below : List Frame} {meth : Method} {c : Code} {b : Nat} {xs : Nat → Int32} {D : va_G} {a a2 : Nat → Nat} {kI kZ kL : ClassId} {q : Nat} {H : Heap} {locs : List Loc} {ls : Array Slot} (C : lw_I p l s m meth c b xs D a a2 kI kZ kL q H locs ls) : W p l e room_1 s m #[Value.ref b] below meth c H locs 60 9971 (lw_Z below #[Value.ref b] s) (F0 m 524 ls []) := by
  obtain ⟨hx, hb, hr, hml, hown, hG, hlocks, hX, hbl, hK, hZ, hC, hlt, hP, hD, hS, hl⟩ := C
  have hA : ∀ q : Nat, s.heap.size ≤ q → (fun q : Nat => s.heap.size ≤ q) q := fun _ h => h
  have hbA : ¬ (fun q : Nat => s.heap.size ≤ q) b := Nat.not_le.mpr hbl
  have hK2 := hK.sub (tys' := rl_tys kI kZ) [0, 1] rfl
  refine lv_aload_n hx hb d_w_law_524 rfl (lv_at hl 3 rfl) ?_
  refine lv_aload_n hx hb d_w_law_525 rfl (lv_at hl 4 rfl) ?_
  refine lv_iload hx hb d_w_law_526 (lv_at hl 0 rfl) ?_
  refine lv_iconst (v := 1) hx hb d_w_law_528 (by decide) ?_
  refine lv_iadd hx hb d_w_law_529 ?_
  refine lv_topi (fun v1 ev1 => ?_)
  obtain rfl : v1 = 1 := ev1.trans (by decide)
  refine va_sld hx hb hX hbl hbA hS (rl_in (x := 1) (n := 6) (by decide) (by decide)) d_w_law_530 ?_
  refine lv_aload_n hx hb d_w_law_531 rfl (lv_at hl 4 rfl) ?_
  refine lv_iload hx hb d_w_law_532 (lv_at hl 0 rfl) ?_
  refine lv_iconst (v := 2) hx hb d_w_law_534 (by decide) ?_
  refine lv_iadd hx hb d_w_law_535 ?_
  refine lv_topi (fun v2 ev2 => ?_)
  obtain rfl : v2 = 2 := ev2.trans (by decide)
  refine va_sld hx hb hX hbl hbA hS (rl_in (x := 2) (n := 6) (by decide) (by decide)) d_w_law_536 ?_
  have hpre := rl_BR.pre (av := .ref (a 0) :: [.int (xs (1 : Int32).toNatClampNeg), .int (xs (2 : Int32).toNatClampNeg)]) rl_nw0 (rl_P.l (rl_P.l hP)) hK2 rl_N0
  refine rl_callr hS (va_runV (As := [.int (xs (1 : Int32).toNatClampNeg), .int (xs (2 : Int32).toNatClampNeg)]) (rest := []) ⟨hx, hb, hml, hown, hG⟩ (k_x_right l D a kI kZ (xs (1 : Int32).toNatClampNeg) (xs (2 : Int32).toNatClampNeg) _) (cwV 2 hG (rl_gV wd_315 wd_316 wd_317 wd_14 wd_318) rfl rfl rfl (by decide +kernel) ⟨Nat.le_of_ble_eq_true rfl, Nat.le_of_ble_eq_true rfl⟩) ⟨hpre.1, (va_recv hK (rl_P.l (rl_P.l hP)) (ci := 0) (q0 := 0) rfl rfl), hpre.2⟩ rfl rfl hl.1 rfl (lv_room (Nat.le_of_ble_eq_true rfl)) d_w_law_537 ⟨Nat.le_of_ble_eq_true rfl, Nat.le_of_ble_eq_true rfl⟩) (fun r3 locs h4 hS => ?_)
  refine lv_aload_n hx hb d_w_law_540 rfl (lv_at hl 2 rfl) ?_
  refine lv_aload_n hx hb d_w_law_541 rfl (lv_at hl 4 rfl) ?_
  refine lv_iload hx hb d_w_law_542 (lv_at hl 0 rfl) ?_
  refine lv_iconst (v := 1) hx hb d_w_law_544 (by decide) ?_
  refine lv_iadd hx hb d_w_law_545 ?_
  refine lv_topi (fun v5 ev5 => ?_)
  obtain rfl : v5 = 1 := ev5.trans (by decide)
  refine va_sld hx hb hX hbl hbA hS (rl_in (x := 1) (n := 6) (by decide) (by decide)) d_w_law_546 ?_
  refine lv_aload_n hx hb d_w_law_547 rfl (lv_at hl 4 rfl) ?_
  refine lv_iload hx hb d_w_law_548 (lv_at hl 0 rfl) ?_
  refine lv_iconst (v := 2) hx hb d_w_law_550 (by decide) ?_
  refine lv_iadd hx hb d_w_law_551 ?_
  refine lv_topi (fun v6 ev6 => ?_)
  obtain rfl : v6 = 2 := ev6.trans (by decide)
  refine va_sld hx hb hX hbl hbA hS (rl_in (x := 2) (n := 6) (by decide) (by decide)) d_w_law_552 ?_
  have hpre := rl_B.pre (av := .ref (a2 0) :: [.int (xs (1 : Int32).toNatClampNeg), .int (xs (2 : Int32).toNatClampNeg)]) rl_nw0 (rl_P.r hP) hK2 (rl_D.r hD) rl_N0
  refine rl_calliR hP hD hS hA (va_runV (As := [.int (xs (1 : Int32).toNatClampNeg), .int (xs (2 : Int32).toNatClampNeg)]) (rest := [.int r3]) ⟨hx, hb, hml, hown, hG⟩ (k_m_right l D a2 kI kZ (xs (1 : Int32).toNatClampNeg) (xs (2 : Int32).toNatClampNeg) _) (cwV 2 hG (rl_gV wd_649 wd_650 wd_651 wd_19 wd_652) rfl rfl rfl (by decide +kernel) ⟨Nat.le_of_ble_eq_true rfl, Nat.le_of_ble_eq_true rfl⟩) ⟨hpre.1, (va_recv hK (rl_P.r hP) (ci := 5) (q0 := 0) rfl rfl), hpre.2⟩ rfl rfl hl.1 rfl (lv_room (Nat.le_of_ble_eq_true rfl)) d_w_law_553 ⟨Nat.le_of_ble_eq_true rfl, Nat.le_of_ble_eq_true rfl⟩) (fun r7 F9 H locs h8 hP hD hS => ?_)
  have hP : va_P D rl_cl ((rl_w a kI kZ rl_F0 ++ rl_O kL q (fun _ => 0)) ++ rm_w a2 kI kZ F9) H := hP
  have hD : va_D (fun q : Nat => s.heap.size ≤ q) ((rl_w a kI kZ rl_F0 ++ rl_O kL q (fun _ => 0)) ++ rm_w a2 kI kZ F9) := hD
  refine lv_icmp_eq (tgt := 931) hx hb d_w_law_556 (by decide) (fun _ => ?_) (fun c9 => absurd (Int32.toInt_inj.mp (by omega)) c9)
  exact law_end hx hb hr hlocks hX hbl hS (Nat.le_of_ble_eq_true rfl) (Nat.le_of_ble_eq_true rfl) (lv_sub hl [0, 4] rfl)
set_option maxHeartbeats 4000000 in
set_option maxRecDepth 100000 in
theorem law_9 {p : Program} {l : Launch} {e : Env} {s : State} {m : MethodId} {below : List Frame} {meth : Method} {c : Code} {b : Nat} {xs : Nat → Int32} {D : va_G} {a a2 : Nat → Nat} {kI kZ kL : ClassId} {q : Nat} {H : Heap} {locs : List Loc} {ls : Array Slot} (C : lw_I p l s m meth c b xs D a a2 kI kZ kL q H locs ls) : W p l e room_1 s m #[Value.ref b] below meth c H locs 60 9971 (lw_Z below #[Value.ref b] s) (F0 m 561 ls []) := by
  obtain ⟨hx, hb, hr, hml, hown, hG, hlocks, hX, hbl, hK, hZ, hC, hlt, hP, hD, hS, hl⟩ := C
  have hA : ∀ q : Nat, s.heap.size ≤ q → (fun q : Nat => s.heap.size ≤ q) q := fun _ h => h
  have hbA : ¬ (fun q : Nat => s.heap.size ≤ q) b := Nat.not_le.mpr hbl
  have hK2 := hK.sub (tys' := rl_tys kI kZ) [0, 1] rfl
  refine lv_aload_n hx hb d_w_law_561 rfl (lv_at hl 3 rfl) ?_
  refine lv_aload_n hx hb d_w_law_562 rfl (lv_at hl 4 rfl) ?_
  refine lv_iload hx hb d_w_law_563 (lv_at hl 0 rfl) ?_
  refine lv_iconst (v := 1) hx hb d_w_law_565 (by decide) ?_
  refine lv_iadd hx hb d_w_law_566 ?_
  refine lv_topi (fun v1 ev1 => ?_)
  obtain rfl : v1 = 1 := ev1.trans (by decide)
  refine va_sld hx hb hX hbl hbA hS (rl_in (x := 1) (n := 6) (by decide) (by decide)) d_w_law_567 ?_
  refine lv_aload_n hx hb d_w_law_568 rfl (lv_at hl 4 rfl) ?_
  refine lv_iload hx hb d_w_law_569 (lv_at hl 0 rfl) ?_
  refine lv_iconst (v := 2) hx hb d_w_law_571 (by decide) ?_
  refine lv_iadd hx hb d_w_law_572 ?_
  refine lv_topi (fun v2 ev2 => ?_)
  obtain rfl : v2 = 2 := ev2.trans (by decide)
  refine va_sld hx hb hX hbl hbA hS (rl_in (x := 2) (n := 6) (by decide) (by decide)) d_w_law_573 ?_
  have hpre := rl_BR.pre (av := .ref (a 0) :: [.int (xs (1 : Int32).toNatClampNeg), .int (xs (2 : Int32).toNatClampNeg)]) rl_nw0 (rl_P.l (rl_P.l hP)) hK2 rl_N0
  refine rl_callr hS (va_runV (As := [.int (xs (1 : Int32).toNatClampNeg), .int (xs (2 : Int32).toNatClampNeg)]) (rest := []) ⟨hx, hb, hml, hown, hG⟩ (k_x_waive l D a kI kZ (xs (1 : Int32).toNatClampNeg) (xs (2 : Int32).toNatClampNeg) _) (cwV 2 hG (rl_gV wd_319 wd_320 wd_321 wd_14 wd_322) rfl rfl rfl (by decide +kernel) ⟨Nat.le_of_ble_eq_true rfl, Nat.le_of_ble_eq_true rfl⟩) ⟨hpre.1, (va_recv hK (rl_P.l (rl_P.l hP)) (ci := 0) (q0 := 0) rfl rfl), hpre.2⟩ rfl rfl hl.1 rfl (lv_room (Nat.le_of_ble_eq_true rfl)) d_w_law_574 ⟨Nat.le_of_ble_eq_true rfl, Nat.le_of_ble_eq_true rfl⟩) (fun r3 locs h4 hS => ?_)
  refine lv_aload_n hx hb d_w_law_577 rfl (lv_at hl 2 rfl) ?_
  refine lv_aload_n hx hb d_w_law_578 rfl (lv_at hl 4 rfl) ?_
  refine lv_iload hx hb d_w_law_579 (lv_at hl 0 rfl) ?_
  refine lv_iconst (v := 1) hx hb d_w_law_581 (by decide) ?_
  refine lv_iadd hx hb d_w_law_582 ?_
  refine lv_topi (fun v5 ev5 => ?_)
  obtain rfl : v5 = 1 := ev5.trans (by decide)
  refine va_sld hx hb hX hbl hbA hS (rl_in (x := 1) (n := 6) (by decide) (by decide)) d_w_law_583 ?_
  refine lv_aload_n hx hb d_w_law_584 rfl (lv_at hl 4 rfl) ?_
  refine lv_iload hx hb d_w_law_585 (lv_at hl 0 rfl) ?_
  refine lv_iconst (v := 2) hx hb d_w_law_587 (by decide) ?_
  refine lv_iadd hx hb d_w_law_588 ?_
  refine lv_topi (fun v6 ev6 => ?_)
  obtain rfl : v6 = 2 := ev6.trans (by decide)
  refine va_sld hx hb hX hbl hbA hS (rl_in (x := 2) (n := 6) (by decide) (by decide)) d_w_law_589 ?_
  have hpre := rl_B.pre (av := .ref (a2 0) :: [.int (xs (1 : Int32).toNatClampNeg), .int (xs (2 : Int32).toNatClampNeg)]) rl_nw0 (rl_P.r hP) hK2 (rl_D.r hD) rl_N0
  refine rl_calliR hP hD hS hA (va_runV (As := [.int (xs (1 : Int32).toNatClampNeg), .int (xs (2 : Int32).toNatClampNeg)]) (rest := [.int r3]) ⟨hx, hb, hml, hown, hG⟩ (k_m_waive l D a2 kI kZ (xs (1 : Int32).toNatClampNeg) (xs (2 : Int32).toNatClampNeg) _) (cwV 2 hG (rl_gV wd_653 wd_654 wd_655 wd_19 wd_656) rfl rfl rfl (by decide +kernel) ⟨Nat.le_of_ble_eq_true rfl, Nat.le_of_ble_eq_true rfl⟩) ⟨hpre.1, (va_recv hK (rl_P.r hP) (ci := 5) (q0 := 0) rfl rfl), hpre.2⟩ rfl rfl hl.1 rfl (lv_room (Nat.le_of_ble_eq_true rfl)) d_w_law_590 ⟨Nat.le_of_ble_eq_true rfl, Nat.le_of_ble_eq_true rfl⟩) (fun r7 F9 H locs h8 hP hD hS => ?_)
  have hP : va_P D rl_cl ((rl_w a kI kZ rl_F0 ++ rl_O kL q (fun _ => 0)) ++ rm_w a2 kI kZ F9) H := hP
  have hD : va_D (fun q : Nat => s.heap.size ≤ q) ((rl_w a kI kZ rl_F0 ++ rl_O kL q (fun _ => 0)) ++ rm_w a2 kI kZ F9) := hD
  refine lv_icmp_eq (tgt := 931) hx hb d_w_law_593 (by decide) (fun _ => ?_) (fun c9 => absurd (Int32.toInt_inj.mp (by omega)) c9)
  exact law_end hx hb hr hlocks hX hbl hS (Nat.le_of_ble_eq_true rfl) (Nat.le_of_ble_eq_true rfl) (lv_sub hl [0, 4] rfl)
set_option maxHeartbeats 4000000 in
set_option maxRecDepth 100000 in
theorem law_10 {p : Program} {l : Launch} {e : Env} {s : State} {m : MethodId} {below : List Frame} {meth : Method} {c : Code} {b : Nat} {xs : Nat → Int32} {D : va_G} {a a2 : Nat → Nat} {kI kZ kL : ClassId} {q : Nat} {H : Heap} {locs : List Loc} {ls : Array Slot} (C : lw_I p l s m meth c b xs D a a2 kI kZ kL q H locs ls) : W p l e room_1 s m #[Value.ref b] below meth c H locs 60 9971 (lw_Z below #[Value.ref b] s) (F0 m 598 ls []) := by
  obtain ⟨hx, hb, hr, hml, hown, hG, hlocks, hX, hbl, hK, hZ, hC, hlt, hP, hD, hS, hl⟩ := C
  have hA : ∀ q : Nat, s.heap.size ≤ q → (fun q : Nat => s.heap.size ≤ q) q := fun _ h => h
  have hbA : ¬ (fun q : Nat => s.heap.size ≤ q) b := Nat.not_le.mpr hbl
  have hK2 := hK.sub (tys' := rl_tys kI kZ) [0, 1] rfl
  refine lv_aload_n hx hb d_w_law_598 rfl (lv_at hl 3 rfl) ?_
  refine lv_aload_n hx hb d_w_law_599 rfl (lv_at hl 4 rfl) ?_
  refine lv_iload hx hb d_w_law_600 (lv_at hl 0 rfl) ?_
  refine lv_iconst (v := 1) hx hb d_w_law_602 (by decide) ?_
  refine lv_iadd hx hb d_w_law_603 ?_
  refine lv_topi (fun v1 ev1 => ?_)
  obtain rfl : v1 = 1 := ev1.trans (by decide)
  refine va_sld hx hb hX hbl hbA hS (rl_in (x := 1) (n := 6) (by decide) (by decide)) d_w_law_604 ?_
  refine lv_aload_n hx hb d_w_law_605 rfl (lv_at hl 4 rfl) ?_
  refine lv_iload hx hb d_w_law_606 (lv_at hl 0 rfl) ?_
  refine lv_iconst (v := 2) hx hb d_w_law_608 (by decide) ?_
  refine lv_iadd hx hb d_w_law_609 ?_
  refine lv_topi (fun v2 ev2 => ?_)
  obtain rfl : v2 = 2 := ev2.trans (by decide)
  refine va_sld hx hb hX hbl hbA hS (rl_in (x := 2) (n := 6) (by decide) (by decide)) d_w_law_610 ?_
  have hpre := rl_BR.pre (av := .ref (a 0) :: [.int (xs (1 : Int32).toNatClampNeg), .int (xs (2 : Int32).toNatClampNeg)]) rl_nw0 (rl_P.l (rl_P.l hP)) hK2 rl_N0
  refine rl_callr hS (va_runV (As := [.int (xs (1 : Int32).toNatClampNeg), .int (xs (2 : Int32).toNatClampNeg)]) (rest := []) ⟨hx, hb, hml, hown, hG⟩ (k_x_renew l D a kI kZ (xs (1 : Int32).toNatClampNeg) (xs (2 : Int32).toNatClampNeg) _) (cwV 2 hG (rl_gV wd_327 wd_328 wd_329 wd_14 wd_330) rfl rfl rfl (by decide +kernel) ⟨Nat.le_of_ble_eq_true rfl, Nat.le_of_ble_eq_true rfl⟩) ⟨hpre.1, (va_recv hK (rl_P.l (rl_P.l hP)) (ci := 0) (q0 := 0) rfl rfl), hpre.2⟩ rfl rfl hl.1 rfl (lv_room (Nat.le_of_ble_eq_true rfl)) d_w_law_611 ⟨Nat.le_of_ble_eq_true rfl, Nat.le_of_ble_eq_true rfl⟩) (fun r3 locs h4 hS => ?_)
  refine lv_aload_n hx hb d_w_law_614 rfl (lv_at hl 2 rfl) ?_
  refine lv_aload_n hx hb d_w_law_615 rfl (lv_at hl 4 rfl) ?_
  refine lv_iload hx hb d_w_law_616 (lv_at hl 0 rfl) ?_
  refine lv_iconst (v := 1) hx hb d_w_law_618 (by decide) ?_
  refine lv_iadd hx hb d_w_law_619 ?_
  refine lv_topi (fun v5 ev5 => ?_)
  obtain rfl : v5 = 1 := ev5.trans (by decide)
  refine va_sld hx hb hX hbl hbA hS (rl_in (x := 1) (n := 6) (by decide) (by decide)) d_w_law_620 ?_
  refine lv_aload_n hx hb d_w_law_621 rfl (lv_at hl 4 rfl) ?_
  refine lv_iload hx hb d_w_law_622 (lv_at hl 0 rfl) ?_
  refine lv_iconst (v := 2) hx hb d_w_law_624 (by decide) ?_
  refine lv_iadd hx hb d_w_law_625 ?_
  refine lv_topi (fun v6 ev6 => ?_)
  obtain rfl : v6 = 2 := ev6.trans (by decide)
  refine va_sld hx hb hX hbl hbA hS (rl_in (x := 2) (n := 6) (by decide) (by decide)) d_w_law_626 ?_
  have hpre := rl_B.pre (av := .ref (a2 0) :: [.int (xs (1 : Int32).toNatClampNeg), .int (xs (2 : Int32).toNatClampNeg)]) rl_nw0 (rl_P.r hP) hK2 (rl_D.r hD) rl_N0
  refine rl_calliR hP hD hS hA (va_runV (As := [.int (xs (1 : Int32).toNatClampNeg), .int (xs (2 : Int32).toNatClampNeg)]) (rest := [.int r3]) ⟨hx, hb, hml, hown, hG⟩ (k_m_renew l D a2 kI kZ (xs (1 : Int32).toNatClampNeg) (xs (2 : Int32).toNatClampNeg) _) (cwV 2 hG (rl_gV wd_657 wd_658 wd_659 wd_19 wd_660) rfl rfl rfl (by decide +kernel) ⟨Nat.le_of_ble_eq_true rfl, Nat.le_of_ble_eq_true rfl⟩) ⟨hpre.1, (va_recv hK (rl_P.r hP) (ci := 5) (q0 := 0) rfl rfl), hpre.2⟩ rfl rfl hl.1 rfl (lv_room (Nat.le_of_ble_eq_true rfl)) d_w_law_627 ⟨Nat.le_of_ble_eq_true rfl, Nat.le_of_ble_eq_true rfl⟩) (fun r7 F9 H locs h8 hP hD hS => ?_)
  have hP : va_P D rl_cl ((rl_w a kI kZ rl_F0 ++ rl_O kL q (fun _ => 0)) ++ rm_w a2 kI kZ F9) H := hP
  have hD : va_D (fun q : Nat => s.heap.size ≤ q) ((rl_w a kI kZ rl_F0 ++ rl_O kL q (fun _ => 0)) ++ rm_w a2 kI kZ F9) := hD
  refine lv_icmp_eq (tgt := 931) hx hb d_w_law_630 (by decide) (fun _ => ?_) (fun c9 => absurd (Int32.toInt_inj.mp (by omega)) c9)
  exact law_end hx hb hr hlocks hX hbl hS (Nat.le_of_ble_eq_true rfl) (Nat.le_of_ble_eq_true rfl) (lv_sub hl [0, 4] rfl)
set_option maxHeartbeats 4000000 in
set_option maxRecDepth 100000 in
theorem law_11 {p : Program} {l : Launch} {e : Env} {s : State} {m : MethodId} {below : List Frame} {meth : Method} {c : Code} {b : Nat} {xs : Nat → Int32} {D : va_G} {a a2 : Nat → Nat} {kI kZ kL : ClassId} {q : Nat} {H : Heap} {locs : List Loc} {ls : Array Slot} (C : lw_I p l s m meth c b xs D a a2 kI kZ kL q H locs ls) : W p l e room_1 s m #[Value.ref b] below meth c H locs 60 9971 (lw_Z below #[Value.ref b] s) (F0 m 635 ls []) := by
  obtain ⟨hx, hb, hr, hml, hown, hG, hlocks, hX, hbl, hK, hZ, hC, hlt, hP, hD, hS, hl⟩ := C
  have hA : ∀ q : Nat, s.heap.size ≤ q → (fun q : Nat => s.heap.size ≤ q) q := fun _ h => h
  have hbA : ¬ (fun q : Nat => s.heap.size ≤ q) b := Nat.not_le.mpr hbl
  have hK2 := hK.sub (tys' := rl_tys kI kZ) [0, 1] rfl
  refine lv_aload_n hx hb d_w_law_635 rfl (lv_at hl 3 rfl) ?_
  refine lv_aload_n hx hb d_w_law_636 rfl (lv_at hl 4 rfl) ?_
  refine lv_iload hx hb d_w_law_637 (lv_at hl 0 rfl) ?_
  refine lv_iconst (v := 1) hx hb d_w_law_639 (by decide) ?_
  refine lv_iadd hx hb d_w_law_640 ?_
  refine lv_topi (fun v1 ev1 => ?_)
  obtain rfl : v1 = 1 := ev1.trans (by decide)
  refine va_sld hx hb hX hbl hbA hS (rl_in (x := 1) (n := 6) (by decide) (by decide)) d_w_law_641 ?_
  refine lv_aload_n hx hb d_w_law_642 rfl (lv_at hl 4 rfl) ?_
  refine lv_iload hx hb d_w_law_643 (lv_at hl 0 rfl) ?_
  refine lv_iconst (v := 2) hx hb d_w_law_645 (by decide) ?_
  refine lv_iadd hx hb d_w_law_646 ?_
  refine lv_topi (fun v2 ev2 => ?_)
  obtain rfl : v2 = 2 := ev2.trans (by decide)
  refine va_sld hx hb hX hbl hbA hS (rl_in (x := 2) (n := 6) (by decide) (by decide)) d_w_law_647 ?_
  have hpre := rl_BR.pre (av := .ref (a 0) :: [.int (xs (1 : Int32).toNatClampNeg), .int (xs (2 : Int32).toNatClampNeg)]) rl_nw0 (rl_P.l (rl_P.l hP)) hK2 rl_N0
  refine rl_callr hS (va_runV (As := [.int (xs (1 : Int32).toNatClampNeg), .int (xs (2 : Int32).toNatClampNeg)]) (rest := []) ⟨hx, hb, hml, hown, hG⟩ (k_x_delete l D a kI kZ (xs (1 : Int32).toNatClampNeg) (xs (2 : Int32).toNatClampNeg) _) (cwV 2 hG (rl_gV wd_352 wd_353 wd_354 wd_14 wd_355) rfl rfl rfl (by decide +kernel) ⟨Nat.le_of_ble_eq_true rfl, Nat.le_of_ble_eq_true rfl⟩) ⟨hpre.1, (va_recv hK (rl_P.l (rl_P.l hP)) (ci := 0) (q0 := 0) rfl rfl), hpre.2⟩ rfl rfl hl.1 rfl (lv_room (Nat.le_of_ble_eq_true rfl)) d_w_law_648 ⟨Nat.le_of_ble_eq_true rfl, Nat.le_of_ble_eq_true rfl⟩) (fun r3 locs h4 hS => ?_)
  refine lv_aload_n hx hb d_w_law_651 rfl (lv_at hl 2 rfl) ?_
  refine lv_aload_n hx hb d_w_law_652 rfl (lv_at hl 4 rfl) ?_
  refine lv_iload hx hb d_w_law_653 (lv_at hl 0 rfl) ?_
  refine lv_iconst (v := 1) hx hb d_w_law_655 (by decide) ?_
  refine lv_iadd hx hb d_w_law_656 ?_
  refine lv_topi (fun v5 ev5 => ?_)
  obtain rfl : v5 = 1 := ev5.trans (by decide)
  refine va_sld hx hb hX hbl hbA hS (rl_in (x := 1) (n := 6) (by decide) (by decide)) d_w_law_657 ?_
  refine lv_aload_n hx hb d_w_law_658 rfl (lv_at hl 4 rfl) ?_
  refine lv_iload hx hb d_w_law_659 (lv_at hl 0 rfl) ?_
  refine lv_iconst (v := 2) hx hb d_w_law_661 (by decide) ?_
  refine lv_iadd hx hb d_w_law_662 ?_
  refine lv_topi (fun v6 ev6 => ?_)
  obtain rfl : v6 = 2 := ev6.trans (by decide)
  refine va_sld hx hb hX hbl hbA hS (rl_in (x := 2) (n := 6) (by decide) (by decide)) d_w_law_663 ?_
  have hpre := rl_B.pre (av := .ref (a2 0) :: [.int (xs (1 : Int32).toNatClampNeg), .int (xs (2 : Int32).toNatClampNeg)]) rl_nw0 (rl_P.r hP) hK2 (rl_D.r hD) rl_N0
  refine rl_calliR hP hD hS hA (va_runV (As := [.int (xs (1 : Int32).toNatClampNeg), .int (xs (2 : Int32).toNatClampNeg)]) (rest := [.int r3]) ⟨hx, hb, hml, hown, hG⟩ (k_m_delete l D a2 kI kZ (xs (1 : Int32).toNatClampNeg) (xs (2 : Int32).toNatClampNeg) _) (cwV 2 hG (rl_gV wd_661 wd_662 wd_663 wd_19 wd_664) rfl rfl rfl (by decide +kernel) ⟨Nat.le_of_ble_eq_true rfl, Nat.le_of_ble_eq_true rfl⟩) ⟨hpre.1, (va_recv hK (rl_P.r hP) (ci := 5) (q0 := 0) rfl rfl), hpre.2⟩ rfl rfl hl.1 rfl (lv_room (Nat.le_of_ble_eq_true rfl)) d_w_law_664 ⟨Nat.le_of_ble_eq_true rfl, Nat.le_of_ble_eq_true rfl⟩) (fun r7 F9 H locs h8 hP hD hS => ?_)
  have hP : va_P D rl_cl ((rl_w a kI kZ rl_F0 ++ rl_O kL q (fun _ => 0)) ++ rm_w a2 kI kZ F9) H := hP
  have hD : va_D (fun q : Nat => s.heap.size ≤ q) ((rl_w a kI kZ rl_F0 ++ rl_O kL q (fun _ => 0)) ++ rm_w a2 kI kZ F9) := hD
  refine lv_icmp_eq (tgt := 931) hx hb d_w_law_667 (by decide) (fun _ => ?_) (fun c9 => absurd (Int32.toInt_inj.mp (by omega)) c9)
  exact law_end hx hb hr hlocks hX hbl hS (Nat.le_of_ble_eq_true rfl) (Nat.le_of_ble_eq_true rfl) (lv_sub hl [0, 4] rfl)
set_option maxHeartbeats 4000000 in
set_option maxRecDepth 100000 in
theorem law_12 {p : Program} {l : Launch} {e : Env} {s : State} {m : MethodId} {below : List Frame} {meth : Method} {c : Code} {b : Nat} {xs : Nat → Int32} {D : va_G} {a a2 : Nat → Nat} {kI kZ kL : ClassId} {q : Nat} {H : Heap} {locs : List Loc} {ls : Array Slot} (C : lw_I p l s m meth c b xs D a a2 kI kZ kL q H locs ls) : W p l e room_1 s m #[Value.ref b] below meth c H locs 60 9971 (lw_Z below #[Value.ref b] s) (F0 m 672 ls []) := by
  obtain ⟨hx, hb, hr, hml, hown, hG, hlocks, hX, hbl, hK, hZ, hC, hlt, hP, hD, hS, hl⟩ := C
  have hA : ∀ q : Nat, s.heap.size ≤ q → (fun q : Nat => s.heap.size ≤ q) q := fun _ h => h
  have hbA : ¬ (fun q : Nat => s.heap.size ≤ q) b := Nat.not_le.mpr hbl
  have hK2 := hK.sub (tys' := rl_tys kI kZ) [0, 1] rfl
  refine lv_aload_n hx hb d_w_law_672 rfl (lv_at hl 3 rfl) ?_
  refine lv_aload_n hx hb d_w_law_673 rfl (lv_at hl 4 rfl) ?_
  refine lv_iload hx hb d_w_law_674 (lv_at hl 0 rfl) ?_
  refine lv_iconst (v := 1) hx hb d_w_law_676 (by decide) ?_
  refine lv_iadd hx hb d_w_law_677 ?_
  refine lv_topi (fun v1 ev1 => ?_)
  obtain rfl : v1 = 1 := ev1.trans (by decide)
  refine va_sld hx hb hX hbl hbA hS (rl_in (x := 1) (n := 6) (by decide) (by decide)) d_w_law_678 ?_
  refine lv_aload_n hx hb d_w_law_679 rfl (lv_at hl 4 rfl) ?_
  refine lv_iload hx hb d_w_law_680 (lv_at hl 0 rfl) ?_
  refine lv_iconst (v := 2) hx hb d_w_law_682 (by decide) ?_
  refine lv_iadd hx hb d_w_law_683 ?_
  refine lv_topi (fun v2 ev2 => ?_)
  obtain rfl : v2 = 2 := ev2.trans (by decide)
  refine va_sld hx hb hX hbl hbA hS (rl_in (x := 2) (n := 6) (by decide) (by decide)) d_w_law_684 ?_
  refine lv_aload_n hx hb d_w_law_685 rfl (lv_at hl 4 rfl) ?_
  refine lv_iload hx hb d_w_law_686 (lv_at hl 0 rfl) ?_
  refine lv_iconst (v := 3) hx hb d_w_law_688 (by decide) ?_
  refine lv_iadd hx hb d_w_law_689 ?_
  refine lv_topi (fun v3 ev3 => ?_)
  obtain rfl : v3 = 3 := ev3.trans (by decide)
  refine va_sld hx hb hX hbl hbA hS (rl_in (x := 3) (n := 6) (by decide) (by decide)) d_w_law_690 ?_
  refine lv_aload_n hx hb d_w_law_691 rfl (lv_at hl 4 rfl) ?_
  refine lv_iload hx hb d_w_law_692 (lv_at hl 0 rfl) ?_
  refine lv_iconst (v := 4) hx hb d_w_law_694 (by decide) ?_
  refine lv_iadd hx hb d_w_law_695 ?_
  refine lv_topi (fun v4 ev4 => ?_)
  obtain rfl : v4 = 4 := ev4.trans (by decide)
  refine va_sld hx hb hX hbl hbA hS (rl_in (x := 4) (n := 6) (by decide) (by decide)) d_w_law_696 ?_
  have hpre := rl_BR.pre (av := .ref (a 0) :: [.int (xs (1 : Int32).toNatClampNeg), .int (xs (2 : Int32).toNatClampNeg), .int (xs (3 : Int32).toNatClampNeg), .int (xs (4 : Int32).toNatClampNeg)]) rl_nw0 (rl_P.l (rl_P.l hP)) hK2 rl_N0
  refine rl_callr hS (va_runV (As := [.int (xs (1 : Int32).toNatClampNeg), .int (xs (2 : Int32).toNatClampNeg), .int (xs (3 : Int32).toNatClampNeg), .int (xs (4 : Int32).toNatClampNeg)]) (rest := []) ⟨hx, hb, hml, hown, hG⟩ (k_x_counted l D a kI kZ (xs (1 : Int32).toNatClampNeg) (xs (2 : Int32).toNatClampNeg) (xs (3 : Int32).toNatClampNeg) (xs (4 : Int32).toNatClampNeg) _) (cwV 4 hG (rl_gV wd_358 wd_359 wd_360 wd_14 wd_361) rfl rfl rfl (by decide +kernel) ⟨Nat.le_of_ble_eq_true rfl, Nat.le_of_ble_eq_true rfl⟩) ⟨hpre.1, (va_recv hK (rl_P.l (rl_P.l hP)) (ci := 0) (q0 := 0) rfl rfl), hpre.2⟩ rfl rfl hl.1 rfl (lv_room (Nat.le_of_ble_eq_true rfl)) d_w_law_697 ⟨Nat.le_of_ble_eq_true rfl, Nat.le_of_ble_eq_true rfl⟩) (fun r5 locs h6 hS => ?_)
  refine lv_aload_n hx hb d_w_law_700 rfl (lv_at hl 2 rfl) ?_
  refine lv_aload_n hx hb d_w_law_701 rfl (lv_at hl 4 rfl) ?_
  refine lv_iload hx hb d_w_law_702 (lv_at hl 0 rfl) ?_
  refine lv_iconst (v := 1) hx hb d_w_law_704 (by decide) ?_
  refine lv_iadd hx hb d_w_law_705 ?_
  refine lv_topi (fun v7 ev7 => ?_)
  obtain rfl : v7 = 1 := ev7.trans (by decide)
  refine va_sld hx hb hX hbl hbA hS (rl_in (x := 1) (n := 6) (by decide) (by decide)) d_w_law_706 ?_
  refine lv_aload_n hx hb d_w_law_707 rfl (lv_at hl 4 rfl) ?_
  refine lv_iload hx hb d_w_law_708 (lv_at hl 0 rfl) ?_
  refine lv_iconst (v := 2) hx hb d_w_law_710 (by decide) ?_
  refine lv_iadd hx hb d_w_law_711 ?_
  refine lv_topi (fun v8 ev8 => ?_)
  obtain rfl : v8 = 2 := ev8.trans (by decide)
  refine va_sld hx hb hX hbl hbA hS (rl_in (x := 2) (n := 6) (by decide) (by decide)) d_w_law_712 ?_
  refine lv_aload_n hx hb d_w_law_713 rfl (lv_at hl 4 rfl) ?_
  refine lv_iload hx hb d_w_law_714 (lv_at hl 0 rfl) ?_
  refine lv_iconst (v := 3) hx hb d_w_law_716 (by decide) ?_
  refine lv_iadd hx hb d_w_law_717 ?_
  refine lv_topi (fun v9 ev9 => ?_)
  obtain rfl : v9 = 3 := ev9.trans (by decide)
  refine va_sld hx hb hX hbl hbA hS (rl_in (x := 3) (n := 6) (by decide) (by decide)) d_w_law_718 ?_
  refine lv_aload_n hx hb d_w_law_719 rfl (lv_at hl 4 rfl) ?_
  refine lv_iload hx hb d_w_law_720 (lv_at hl 0 rfl) ?_
  refine lv_iconst (v := 4) hx hb d_w_law_722 (by decide) ?_
  refine lv_iadd hx hb d_w_law_723 ?_
  refine lv_topi (fun v10 ev10 => ?_)
  obtain rfl : v10 = 4 := ev10.trans (by decide)
  refine va_sld hx hb hX hbl hbA hS (rl_in (x := 4) (n := 6) (by decide) (by decide)) d_w_law_724 ?_
  have hpre := rl_B.pre (av := .ref (a2 0) :: [.int (xs (1 : Int32).toNatClampNeg), .int (xs (2 : Int32).toNatClampNeg), .int (xs (3 : Int32).toNatClampNeg), .int (xs (4 : Int32).toNatClampNeg)]) rl_nw0 (rl_P.r hP) hK2 (rl_D.r hD) rl_N0
  refine rl_calliR hP hD hS hA (va_runV (As := [.int (xs (1 : Int32).toNatClampNeg), .int (xs (2 : Int32).toNatClampNeg), .int (xs (3 : Int32).toNatClampNeg), .int (xs (4 : Int32).toNatClampNeg)]) (rest := [.int r5]) ⟨hx, hb, hml, hown, hG⟩ (k_m_counted l D a2 kI kZ (xs (1 : Int32).toNatClampNeg) (xs (2 : Int32).toNatClampNeg) (xs (3 : Int32).toNatClampNeg) (xs (4 : Int32).toNatClampNeg) _) (cwV 4 hG (rl_gV wd_665 wd_666 wd_667 wd_19 wd_668) rfl rfl rfl (by decide +kernel) ⟨Nat.le_of_ble_eq_true rfl, Nat.le_of_ble_eq_true rfl⟩) ⟨hpre.1, (va_recv hK (rl_P.r hP) (ci := 5) (q0 := 0) rfl rfl), hpre.2⟩ rfl rfl hl.1 rfl (lv_room (Nat.le_of_ble_eq_true rfl)) d_w_law_725 ⟨Nat.le_of_ble_eq_true rfl, Nat.le_of_ble_eq_true rfl⟩) (fun r11 F13 H locs h12 hP hD hS => ?_)
  have hP : va_P D rl_cl ((rl_w a kI kZ rl_F0 ++ rl_O kL q (fun _ => 0)) ++ rm_w a2 kI kZ F13) H := hP
  have hD : va_D (fun q : Nat => s.heap.size ≤ q) ((rl_w a kI kZ rl_F0 ++ rl_O kL q (fun _ => 0)) ++ rm_w a2 kI kZ F13) := hD
  refine lv_icmp_eq (tgt := 931) hx hb d_w_law_728 (by decide) (fun _ => ?_) (fun c9 => absurd (Int32.toInt_inj.mp (by omega)) c9)
  exact law_end hx hb hr hlocks hX hbl hS (Nat.le_of_ble_eq_true rfl) (Nat.le_of_ble_eq_true rfl) (lv_sub hl [0, 4] rfl)
set_option maxHeartbeats 4000000 in
set_option maxRecDepth 100000 in
theorem law_13 {p : Program} {l : Launch} {e : Env} {s : State} {m : MethodId} {below : List Frame} {meth : Method} {c : Code} {b : Nat} {xs : Nat → Int32} {D : va_G} {a a2 : Nat → Nat} {kI kZ kL : ClassId} {q : Nat} {H : Heap} {locs : List Loc} {ls : Array Slot} (C : lw_I p l s m meth c b xs D a a2 kI kZ kL q H locs ls) : W p l e room_1 s m #[Value.ref b] below meth c H locs 60 9971 (lw_Z below #[Value.ref b] s) (F0 m 733 ls []) := by
  obtain ⟨hx, hb, hr, hml, hown, hG, hlocks, hX, hbl, hK, hZ, hC, hlt, hP, hD, hS, hl⟩ := C
  have hA : ∀ q : Nat, s.heap.size ≤ q → (fun q : Nat => s.heap.size ≤ q) q := fun _ h => h
  have hbA : ¬ (fun q : Nat => s.heap.size ≤ q) b := Nat.not_le.mpr hbl
  have hK2 := hK.sub (tys' := rl_tys kI kZ) [0, 1] rfl
  refine lv_aload_n hx hb d_w_law_733 rfl (lv_at hl 3 rfl) ?_
  refine lv_aload_n hx hb d_w_law_734 rfl (lv_at hl 4 rfl) ?_
  refine lv_iload hx hb d_w_law_735 (lv_at hl 0 rfl) ?_
  refine lv_iconst (v := 1) hx hb d_w_law_737 (by decide) ?_
  refine lv_iadd hx hb d_w_law_738 ?_
  refine lv_topi (fun v1 ev1 => ?_)
  obtain rfl : v1 = 1 := ev1.trans (by decide)
  refine va_sld hx hb hX hbl hbA hS (rl_in (x := 1) (n := 6) (by decide) (by decide)) d_w_law_739 ?_
  refine lv_aload_n hx hb d_w_law_740 rfl (lv_at hl 4 rfl) ?_
  refine lv_iload hx hb d_w_law_741 (lv_at hl 0 rfl) ?_
  refine lv_iconst (v := 2) hx hb d_w_law_743 (by decide) ?_
  refine lv_iadd hx hb d_w_law_744 ?_
  refine lv_topi (fun v2 ev2 => ?_)
  obtain rfl : v2 = 2 := ev2.trans (by decide)
  refine va_sld hx hb hX hbl hbA hS (rl_in (x := 2) (n := 6) (by decide) (by decide)) d_w_law_745 ?_
  refine lv_aload_n hx hb d_w_law_746 rfl (lv_at hl 1 rfl) ?_
  have hh9 : ∀ (q : Nat) (cell : Cell), s.heap[q]? = some cell → H[q]? = some cell := fun q cell h => by rw [hS.2.1 q (Array.getElem?_eq_some_iff.mp h).1 (Nat.not_le.mpr (Array.getElem?_eq_some_iff.mp h).1)]; exact h
  refine rl_calli (w' := fun _ : Unit => rl_w a kI kZ rl_F0 ++ rl_O kL q (fun _ => 0)) hP hD hS hA (rl_runH (n := 4) (As := [.ref (a 0), .int (xs (1 : Int32).toNatClampNeg), .int (xs (2 : Int32).toNatClampNeg), .ref q]) (rest := []) ⟨hx, hb, hml, hown, hG⟩ (k_w_request l D a kI kZ kL q (fun _ => 0) (xs (1 : Int32).toNatClampNeg) (xs (2 : Int32).toNatClampNeg) hlt _) (rl_gH wd_390 wd_391 wd_13 wd_392) rfl rfl rfl (by decide +kernel) ⟨Nat.le_of_ble_eq_true rfl, Nat.le_of_ble_eq_true rfl⟩ (rl_BH.pre (rl_P.l hP) hK (rl_D.l hD) hh9 hZ hC) rfl rfl hl.1 rfl (lv_room (Nat.le_of_ble_eq_true rfl)) d_w_law_747 ⟨Nat.le_of_ble_eq_true rfl, Nat.le_of_ble_eq_true rfl⟩) (fun r3 u9 H locs h4 hP hD hS => ?_)
  obtain rfl := h4
  refine lv_istore (lv' := [(5, .int 1), (4, .int 0), (3, .ref q), (2, .ref (a2 0)), (1, .ref (a 0)), (0, .ref b)]) hx hb d_w_law_750 hl (by decide) rfl (fun ls hl => ?_)
  refine lv_aload_n hx hb d_w_law_752 rfl (lv_at hl 3 rfl) ?_
  refine lv_aload_n hx hb d_w_law_753 rfl (lv_at hl 5 rfl) ?_
  refine lv_iload hx hb d_w_law_754 (lv_at hl 1 rfl) ?_
  refine lv_iconst (v := 1) hx hb d_w_law_756 (by decide) ?_
  refine lv_iadd hx hb d_w_law_757 ?_
  refine lv_topi (fun v5 ev5 => ?_)
  obtain rfl : v5 = 1 := ev5.trans (by decide)
  refine va_sld hx hb hX hbl hbA hS (rl_in (x := 1) (n := 6) (by decide) (by decide)) d_w_law_758 ?_
  refine lv_aload_n hx hb d_w_law_759 rfl (lv_at hl 5 rfl) ?_
  refine lv_iload hx hb d_w_law_760 (lv_at hl 1 rfl) ?_
  refine lv_iconst (v := 2) hx hb d_w_law_762 (by decide) ?_
  refine lv_iadd hx hb d_w_law_763 ?_
  refine lv_topi (fun v6 ev6 => ?_)
  obtain rfl : v6 = 2 := ev6.trans (by decide)
  refine va_sld hx hb hX hbl hbA hS (rl_in (x := 2) (n := 6) (by decide) (by decide)) d_w_law_764 ?_
  have hpre := rl_B.pre (av := .ref (a2 0) :: [.int (xs (1 : Int32).toNatClampNeg), .int (xs (2 : Int32).toNatClampNeg)]) rl_nw0 (rl_P.r hP) hK2 (rl_D.r hD) rl_N0
  refine rl_calliR hP hD hS hA (va_runV (As := [.int (xs (1 : Int32).toNatClampNeg), .int (xs (2 : Int32).toNatClampNeg)]) (rest := []) ⟨hx, hb, hml, hown, hG⟩ (k_m_request l D a2 kI kZ (xs (1 : Int32).toNatClampNeg) (xs (2 : Int32).toNatClampNeg) _) (cwV 2 hG (rl_gV wd_669 wd_670 wd_671 wd_19 wd_672) rfl rfl rfl (by decide +kernel) ⟨Nat.le_of_ble_eq_true rfl, Nat.le_of_ble_eq_true rfl⟩) ⟨hpre.1, (va_recv hK (rl_P.r hP) (ci := 5) (q0 := 0) rfl rfl), hpre.2⟩ rfl rfl hl.1 rfl (lv_room (Nat.le_of_ble_eq_true rfl)) d_w_law_765 ⟨Nat.le_of_ble_eq_true rfl, Nat.le_of_ble_eq_true rfl⟩) (fun r7 F9 H locs h8 hP hD hS => ?_)
  have hP : va_P D rl_cl ((rl_w a kI kZ rl_F0 ++ rl_O kL q (fun _ => 0)) ++ rm_w a2 kI kZ F9) H := hP
  have hD : va_D (fun q : Nat => s.heap.size ≤ q) ((rl_w a kI kZ rl_F0 ++ rl_O kL q (fun _ => 0)) ++ rm_w a2 kI kZ F9) := hD
  refine lv_istore (lv' := [(6, .int r7), (5, .int 1), (4, .int 0), (3, .ref q), (2, .ref (a2 0)), (1, .ref (a 0)), (0, .ref b)]) hx hb d_w_law_768 hl (by decide) rfl (fun ls hl => ?_)
  refine lv_aload_n hx hb d_w_law_770 rfl (lv_at hl 4 rfl) ?_
  have hpre := rl_BR.pre (av := .ref (a2 0) :: []) rl_nw0 (rl_P.r hP) hK2 rl_N0
  refine rl_callr hS (va_runV (As := []) (rest := []) ⟨hx, hb, hml, hown, hG⟩ (k_m_thrown l D a2 kI kZ F9 _) (cwV 0 hG (rl_gV wd_583 wd_584 wd_585 wd_19 wd_586) rfl rfl rfl (by decide +kernel) ⟨Nat.le_of_ble_eq_true rfl, Nat.le_of_ble_eq_true rfl⟩) ⟨hpre.1, (va_recv hK (rl_P.r hP) (ci := 5) (q0 := 0) rfl rfl), hpre.2⟩ rfl rfl hl.1 rfl (lv_room (Nat.le_of_ble_eq_true rfl)) d_w_law_771 ⟨Nat.le_of_ble_eq_true rfl, Nat.le_of_ble_eq_true rfl⟩) (fun r10 locs h11 hS => ?_)
  obtain rfl : r10 = 1 := h11.trans h8.2
  refine lv_iload hx hb d_w_law_774 (lv_at hl 1 rfl) ?_
  refine lv_icmp_eq (tgt := 781) hx hb d_w_law_776 (by decide) (fun _ => ?_) (fun c9 => absurd c9 (by decide))
  refine lv_iload hx hb d_w_law_781 (lv_at hl 1 rfl) ?_
  refine lv_if_ne (tgt := 798) hx hb d_w_law_783 (by decide) (fun _ => ?_) (fun c9 => absurd c9 (by decide))
  refine lv_goto (tgt := 931) hx hb d_w_law_798 (by decide) ?_
  exact law_end hx hb hr hlocks hX hbl hS (Nat.le_of_ble_eq_true rfl) (Nat.le_of_ble_eq_true rfl) (lv_sub hl [2, 6] rfl)
set_option maxHeartbeats 4000000 in
set_option maxRecDepth 100000 in
theorem law_14 {p : Program} {l : Launch} {e : Env} {s : State} {m : MethodId} {below : List Frame} {meth : Method} {c : Code} {b : Nat} {xs : Nat → Int32} {D : va_G} {a a2 : Nat → Nat} {kI kZ kL : ClassId} {q : Nat} {H : Heap} {locs : List Loc} {ls : Array Slot} (C : lw_I p l s m meth c b xs D a a2 kI kZ kL q H locs ls) : W p l e room_1 s m #[Value.ref b] below meth c H locs 60 9971 (lw_Z below #[Value.ref b] s) (F0 m 801 ls []) := by
  obtain ⟨hx, hb, hr, hml, hown, hG, hlocks, hX, hbl, hK, hZ, hC, hlt, hP, hD, hS, hl⟩ := C
  have hA : ∀ q : Nat, s.heap.size ≤ q → (fun q : Nat => s.heap.size ≤ q) q := fun _ h => h
  have hbA : ¬ (fun q : Nat => s.heap.size ≤ q) b := Nat.not_le.mpr hbl
  have hK2 := hK.sub (tys' := rl_tys kI kZ) [0, 1] rfl
  refine lv_aload_n hx hb d_w_law_801 rfl (lv_at hl 3 rfl) ?_
  refine lv_aload_n hx hb d_w_law_802 rfl (lv_at hl 4 rfl) ?_
  refine lv_iload hx hb d_w_law_803 (lv_at hl 0 rfl) ?_
  refine lv_iconst (v := 1) hx hb d_w_law_805 (by decide) ?_
  refine lv_iadd hx hb d_w_law_806 ?_
  refine lv_topi (fun v1 ev1 => ?_)
  obtain rfl : v1 = 1 := ev1.trans (by decide)
  refine va_sld hx hb hX hbl hbA hS (rl_in (x := 1) (n := 6) (by decide) (by decide)) d_w_law_807 ?_
  have hpre := rl_BR.pre (av := .ref (a 0) :: [.int (xs (1 : Int32).toNatClampNeg)]) rl_nw0 (rl_P.l (rl_P.l hP)) hK2 rl_N0
  refine rl_callr hS (va_runV (As := [.int (xs (1 : Int32).toNatClampNeg)]) (rest := []) ⟨hx, hb, hml, hown, hG⟩ (k_x_left l D a kI kZ (xs (1 : Int32).toNatClampNeg) _) (cwV 1 hG (rl_gV wd_362 wd_363 wd_364 wd_14 wd_365) rfl rfl rfl (by decide +kernel) ⟨Nat.le_of_ble_eq_true rfl, Nat.le_of_ble_eq_true rfl⟩) ⟨hpre.1, (va_recv hK (rl_P.l (rl_P.l hP)) (ci := 0) (q0 := 0) rfl rfl), hpre.2⟩ rfl rfl hl.1 rfl (lv_room (Nat.le_of_ble_eq_true rfl)) d_w_law_808 ⟨Nat.le_of_ble_eq_true rfl, Nat.le_of_ble_eq_true rfl⟩) (fun r2 locs h3 hS => ?_)
  refine lv_aload_n hx hb d_w_law_811 rfl (lv_at hl 2 rfl) ?_
  refine lv_aload_n hx hb d_w_law_812 rfl (lv_at hl 4 rfl) ?_
  refine lv_iload hx hb d_w_law_813 (lv_at hl 0 rfl) ?_
  refine lv_iconst (v := 1) hx hb d_w_law_815 (by decide) ?_
  refine lv_iadd hx hb d_w_law_816 ?_
  refine lv_topi (fun v4 ev4 => ?_)
  obtain rfl : v4 = 1 := ev4.trans (by decide)
  refine va_sld hx hb hX hbl hbA hS (rl_in (x := 1) (n := 6) (by decide) (by decide)) d_w_law_817 ?_
  have hpre := rl_B.pre (av := .ref (a2 0) :: [.int (xs (1 : Int32).toNatClampNeg)]) rl_nw0 (rl_P.r hP) hK2 (rl_D.r hD) rl_N0
  refine rl_calliR hP hD hS hA (va_runV (As := [.int (xs (1 : Int32).toNatClampNeg)]) (rest := [.int r2]) ⟨hx, hb, hml, hown, hG⟩ (k_m_left l D a2 kI kZ (xs (1 : Int32).toNatClampNeg) _) (cwV 1 hG (rl_gV wd_677 wd_678 wd_679 wd_19 wd_680) rfl rfl rfl (by decide +kernel) ⟨Nat.le_of_ble_eq_true rfl, Nat.le_of_ble_eq_true rfl⟩) ⟨hpre.1, (va_recv hK (rl_P.r hP) (ci := 5) (q0 := 0) rfl rfl), hpre.2⟩ rfl rfl hl.1 rfl (lv_room (Nat.le_of_ble_eq_true rfl)) d_w_law_818 ⟨Nat.le_of_ble_eq_true rfl, Nat.le_of_ble_eq_true rfl⟩) (fun r5 F7 H locs h6 hP hD hS => ?_)
  have hP : va_P D rl_cl ((rl_w a kI kZ rl_F0 ++ rl_O kL q (fun _ => 0)) ++ rm_w a2 kI kZ F7) H := hP
  have hD : va_D (fun q : Nat => s.heap.size ≤ q) ((rl_w a kI kZ rl_F0 ++ rl_O kL q (fun _ => 0)) ++ rm_w a2 kI kZ F7) := hD
  refine lv_icmp_eq (tgt := 931) hx hb d_w_law_821 (by decide) (fun _ => ?_) (fun c9 => absurd (Int32.toInt_inj.mp (by omega)) c9)
  exact law_end hx hb hr hlocks hX hbl hS (Nat.le_of_ble_eq_true rfl) (Nat.le_of_ble_eq_true rfl) (lv_sub hl [0, 4] rfl)
set_option maxHeartbeats 4000000 in
set_option maxRecDepth 100000 in
theorem law_15 {p : Program} {l : Launch} {e : Env} {s : State} {m : MethodId} {below : List Frame} {meth : Method} {c : Code} {b : Nat} {xs : Nat → Int32} {D : va_G} {a a2 : Nat → Nat} {kI kZ kL : ClassId} {q : Nat} {H : Heap} {locs : List Loc} {ls : Array Slot} (C : lw_I p l s m meth c b xs D a a2 kI kZ kL q H locs ls) : W p l e room_1 s m #[Value.ref b] below meth c H locs 60 9971 (lw_Z below #[Value.ref b] s) (F0 m 826 ls []) := by
  obtain ⟨hx, hb, hr, hml, hown, hG, hlocks, hX, hbl, hK, hZ, hC, hlt, hP, hD, hS, hl⟩ := C
  have hA : ∀ q : Nat, s.heap.size ≤ q → (fun q : Nat => s.heap.size ≤ q) q := fun _ h => h
  have hbA : ¬ (fun q : Nat => s.heap.size ≤ q) b := Nat.not_le.mpr hbl
  have hK2 := hK.sub (tys' := rl_tys kI kZ) [0, 1] rfl
  refine lv_aload_n hx hb d_w_law_826 rfl (lv_at hl 3 rfl) ?_
  refine lv_aload_n hx hb d_w_law_827 rfl (lv_at hl 4 rfl) ?_
  refine lv_iload hx hb d_w_law_828 (lv_at hl 0 rfl) ?_
  refine lv_iconst (v := 1) hx hb d_w_law_830 (by decide) ?_
  refine lv_iadd hx hb d_w_law_831 ?_
  refine lv_topi (fun v1 ev1 => ?_)
  obtain rfl : v1 = 1 := ev1.trans (by decide)
  refine va_sld hx hb hX hbl hbA hS (rl_in (x := 1) (n := 6) (by decide) (by decide)) d_w_law_832 ?_
  refine lv_aload_n hx hb d_w_law_833 rfl (lv_at hl 4 rfl) ?_
  refine lv_iload hx hb d_w_law_834 (lv_at hl 0 rfl) ?_
  refine lv_iconst (v := 2) hx hb d_w_law_836 (by decide) ?_
  refine lv_iadd hx hb d_w_law_837 ?_
  refine lv_topi (fun v2 ev2 => ?_)
  obtain rfl : v2 = 2 := ev2.trans (by decide)
  refine va_sld hx hb hX hbl hbA hS (rl_in (x := 2) (n := 6) (by decide) (by decide)) d_w_law_838 ?_
  have hpre := rl_BR.pre (av := .ref (a 0) :: [.int (xs (1 : Int32).toNatClampNeg), .int (xs (2 : Int32).toNatClampNeg)]) rl_nw0 (rl_P.l (rl_P.l hP)) hK2 rl_N0
  refine rl_callr hS (va_runV (As := [.int (xs (1 : Int32).toNatClampNeg), .int (xs (2 : Int32).toNatClampNeg)]) (rest := []) ⟨hx, hb, hml, hown, hG⟩ (k_x_statistics l D a kI kZ (xs (1 : Int32).toNatClampNeg) (xs (2 : Int32).toNatClampNeg) _) (cwV 2 hG (rl_gV wd_370 wd_371 wd_372 wd_14 wd_373) rfl rfl rfl (by decide +kernel) ⟨Nat.le_of_ble_eq_true rfl, Nat.le_of_ble_eq_true rfl⟩) ⟨hpre.1, (va_recv hK (rl_P.l (rl_P.l hP)) (ci := 0) (q0 := 0) rfl rfl), hpre.2⟩ rfl rfl hl.1 rfl (lv_room (Nat.le_of_ble_eq_true rfl)) d_w_law_839 ⟨Nat.le_of_ble_eq_true rfl, Nat.le_of_ble_eq_true rfl⟩) (fun r3 locs h4 hS => ?_)
  refine lv_aload_n hx hb d_w_law_842 rfl (lv_at hl 2 rfl) ?_
  refine lv_aload_n hx hb d_w_law_843 rfl (lv_at hl 4 rfl) ?_
  refine lv_iload hx hb d_w_law_844 (lv_at hl 0 rfl) ?_
  refine lv_iconst (v := 1) hx hb d_w_law_846 (by decide) ?_
  refine lv_iadd hx hb d_w_law_847 ?_
  refine lv_topi (fun v5 ev5 => ?_)
  obtain rfl : v5 = 1 := ev5.trans (by decide)
  refine va_sld hx hb hX hbl hbA hS (rl_in (x := 1) (n := 6) (by decide) (by decide)) d_w_law_848 ?_
  refine lv_aload_n hx hb d_w_law_849 rfl (lv_at hl 4 rfl) ?_
  refine lv_iload hx hb d_w_law_850 (lv_at hl 0 rfl) ?_
  refine lv_iconst (v := 2) hx hb d_w_law_852 (by decide) ?_
  refine lv_iadd hx hb d_w_law_853 ?_
  refine lv_topi (fun v6 ev6 => ?_)
  obtain rfl : v6 = 2 := ev6.trans (by decide)
  refine va_sld hx hb hX hbl hbA hS (rl_in (x := 2) (n := 6) (by decide) (by decide)) d_w_law_854 ?_
  have hpre := rl_B.pre (av := .ref (a2 0) :: [.int (xs (1 : Int32).toNatClampNeg), .int (xs (2 : Int32).toNatClampNeg)]) rl_nw0 (rl_P.r hP) hK2 (rl_D.r hD) rl_N0
  refine rl_calliR hP hD hS hA (va_runV (As := [.int (xs (1 : Int32).toNatClampNeg), .int (xs (2 : Int32).toNatClampNeg)]) (rest := [.int r3]) ⟨hx, hb, hml, hown, hG⟩ (k_m_statistics l D a2 kI kZ (xs (1 : Int32).toNatClampNeg) (xs (2 : Int32).toNatClampNeg) _) (cwV 2 hG (rl_gV wd_681 wd_682 wd_683 wd_19 wd_684) rfl rfl rfl (by decide +kernel) ⟨Nat.le_of_ble_eq_true rfl, Nat.le_of_ble_eq_true rfl⟩) ⟨hpre.1, (va_recv hK (rl_P.r hP) (ci := 5) (q0 := 0) rfl rfl), hpre.2⟩ rfl rfl hl.1 rfl (lv_room (Nat.le_of_ble_eq_true rfl)) d_w_law_855 ⟨Nat.le_of_ble_eq_true rfl, Nat.le_of_ble_eq_true rfl⟩) (fun r7 F9 H locs h8 hP hD hS => ?_)
  have hP : va_P D rl_cl ((rl_w a kI kZ rl_F0 ++ rl_O kL q (fun _ => 0)) ++ rm_w a2 kI kZ F9) H := hP
  have hD : va_D (fun q : Nat => s.heap.size ≤ q) ((rl_w a kI kZ rl_F0 ++ rl_O kL q (fun _ => 0)) ++ rm_w a2 kI kZ F9) := hD
  refine lv_icmp_eq (tgt := 931) hx hb d_w_law_858 (by decide) (fun _ => ?_) (fun c9 => absurd (Int32.toInt_inj.mp (by omega)) c9)
  exact law_end hx hb hr hlocks hX hbl hS (Nat.le_of_ble_eq_true rfl) (Nat.le_of_ble_eq_true rfl) (lv_sub hl [0, 4] rfl)
set_option maxHeartbeats 4000000 in
set_option maxRecDepth 100000 in
theorem law_16 {p : Program} {l : Launch} {e : Env} {s : State} {m : MethodId} {below : List Frame} {meth : Method} {c : Code} {b : Nat} {xs : Nat → Int32} {D : va_G} {a a2 : Nat → Nat} {kI kZ kL : ClassId} {q : Nat} {H : Heap} {locs : List Loc} {ls : Array Slot} (C : lw_I p l s m meth c b xs D a a2 kI kZ kL q H locs ls) : W p l e room_1 s m #[Value.ref b] below meth c H locs 60 9971 (lw_Z below #[Value.ref b] s) (F0 m 863 ls []) := by
  obtain ⟨hx, hb, hr, hml, hown, hG, hlocks, hX, hbl, hK, hZ, hC, hlt, hP, hD, hS, hl⟩ := C
  have hA : ∀ q : Nat, s.heap.size ≤ q → (fun q : Nat => s.heap.size ≤ q) q := fun _ h => h
  have hbA : ¬ (fun q : Nat => s.heap.size ≤ q) b := Nat.not_le.mpr hbl
  have hK2 := hK.sub (tys' := rl_tys kI kZ) [0, 1] rfl
  refine lv_aload_n hx hb d_w_law_863 rfl (lv_at hl 3 rfl) ?_
  refine lv_aload_n hx hb d_w_law_864 rfl (lv_at hl 4 rfl) ?_
  refine lv_iload hx hb d_w_law_865 (lv_at hl 0 rfl) ?_
  refine lv_iconst (v := 1) hx hb d_w_law_867 (by decide) ?_
  refine lv_iadd hx hb d_w_law_868 ?_
  refine lv_topi (fun v1 ev1 => ?_)
  obtain rfl : v1 = 1 := ev1.trans (by decide)
  refine va_sld hx hb hX hbl hbA hS (rl_in (x := 1) (n := 6) (by decide) (by decide)) d_w_law_869 ?_
  refine lv_aload_n hx hb d_w_law_870 rfl (lv_at hl 4 rfl) ?_
  refine lv_iload hx hb d_w_law_871 (lv_at hl 0 rfl) ?_
  refine lv_iconst (v := 2) hx hb d_w_law_873 (by decide) ?_
  refine lv_iadd hx hb d_w_law_874 ?_
  refine lv_topi (fun v2 ev2 => ?_)
  obtain rfl : v2 = 2 := ev2.trans (by decide)
  refine va_sld hx hb hX hbl hbA hS (rl_in (x := 2) (n := 6) (by decide) (by decide)) d_w_law_875 ?_
  refine lv_aload_n hx hb d_w_law_876 rfl (lv_at hl 1 rfl) ?_
  have hh9 : ∀ (q : Nat) (cell : Cell), s.heap[q]? = some cell → H[q]? = some cell := fun q cell h => by rw [hS.2.1 q (Array.getElem?_eq_some_iff.mp h).1 (Nat.not_le.mpr (Array.getElem?_eq_some_iff.mp h).1)]; exact h
  refine rl_calli (w' := fun _ : Unit => rl_w a kI kZ rl_F0 ++ rl_O kL q (fun _ => 0)) hP hD hS hA (rl_runH (n := 4) (As := [.ref (a 0), .int (xs (1 : Int32).toNatClampNeg), .int (xs (2 : Int32).toNatClampNeg), .ref q]) (rest := []) ⟨hx, hb, hml, hown, hG⟩ (k_w_past l D a kI kZ kL q (fun _ => 0) (xs (1 : Int32).toNatClampNeg) (xs (2 : Int32).toNatClampNeg) hlt _) (rl_gH wd_465 wd_466 wd_13 wd_467) rfl rfl rfl (by decide +kernel) ⟨Nat.le_of_ble_eq_true rfl, Nat.le_of_ble_eq_true rfl⟩ (rl_BH.pre (rl_P.l hP) hK (rl_D.l hD) hh9 hZ hC) rfl rfl hl.1 rfl (lv_room (Nat.le_of_ble_eq_true rfl)) d_w_law_877 ⟨Nat.le_of_ble_eq_true rfl, Nat.le_of_ble_eq_true rfl⟩) (fun r3 u9 H locs h4 hP hD hS => ?_)
  obtain rfl := h4
  refine lv_istore (lv' := [(5, .int 1), (4, .int 0), (3, .ref q), (2, .ref (a2 0)), (1, .ref (a 0)), (0, .ref b)]) hx hb d_w_law_880 hl (by decide) rfl (fun ls hl => ?_)
  refine lv_aload_n hx hb d_w_law_882 rfl (lv_at hl 3 rfl) ?_
  refine lv_aload_n hx hb d_w_law_883 rfl (lv_at hl 5 rfl) ?_
  refine lv_iload hx hb d_w_law_884 (lv_at hl 1 rfl) ?_
  refine lv_iconst (v := 1) hx hb d_w_law_886 (by decide) ?_
  refine lv_iadd hx hb d_w_law_887 ?_
  refine lv_topi (fun v5 ev5 => ?_)
  obtain rfl : v5 = 1 := ev5.trans (by decide)
  refine va_sld hx hb hX hbl hbA hS (rl_in (x := 1) (n := 6) (by decide) (by decide)) d_w_law_888 ?_
  refine lv_aload_n hx hb d_w_law_889 rfl (lv_at hl 5 rfl) ?_
  refine lv_iload hx hb d_w_law_890 (lv_at hl 1 rfl) ?_
  refine lv_iconst (v := 2) hx hb d_w_law_892 (by decide) ?_
  refine lv_iadd hx hb d_w_law_893 ?_
  refine lv_topi (fun v6 ev6 => ?_)
  obtain rfl : v6 = 2 := ev6.trans (by decide)
  refine va_sld hx hb hX hbl hbA hS (rl_in (x := 2) (n := 6) (by decide) (by decide)) d_w_law_894 ?_
  have hpre := rl_B.pre (av := .ref (a2 0) :: [.int (xs (1 : Int32).toNatClampNeg), .int (xs (2 : Int32).toNatClampNeg)]) rl_nw0 (rl_P.r hP) hK2 (rl_D.r hD) rl_N0
  refine rl_calliR hP hD hS hA (va_runV (As := [.int (xs (1 : Int32).toNatClampNeg), .int (xs (2 : Int32).toNatClampNeg)]) (rest := []) ⟨hx, hb, hml, hown, hG⟩ (k_m_past l D a2 kI kZ (xs (1 : Int32).toNatClampNeg) (xs (2 : Int32).toNatClampNeg) _) (cwV 2 hG (rl_gV wd_685 wd_686 wd_687 wd_19 wd_688) rfl rfl rfl (by decide +kernel) ⟨Nat.le_of_ble_eq_true rfl, Nat.le_of_ble_eq_true rfl⟩) ⟨hpre.1, (va_recv hK (rl_P.r hP) (ci := 5) (q0 := 0) rfl rfl), hpre.2⟩ rfl rfl hl.1 rfl (lv_room (Nat.le_of_ble_eq_true rfl)) d_w_law_895 ⟨Nat.le_of_ble_eq_true rfl, Nat.le_of_ble_eq_true rfl⟩) (fun r7 F9 H locs h8 hP hD hS => ?_)
  have hP : va_P D rl_cl ((rl_w a kI kZ rl_F0 ++ rl_O kL q (fun _ => 0)) ++ rm_w a2 kI kZ F9) H := hP
  have hD : va_D (fun q : Nat => s.heap.size ≤ q) ((rl_w a kI kZ rl_F0 ++ rl_O kL q (fun _ => 0)) ++ rm_w a2 kI kZ F9) := hD
  refine lv_istore (lv' := [(6, .int r7), (5, .int 1), (4, .int 0), (3, .ref q), (2, .ref (a2 0)), (1, .ref (a 0)), (0, .ref b)]) hx hb d_w_law_898 hl (by decide) rfl (fun ls hl => ?_)
  refine lv_aload_n hx hb d_w_law_900 rfl (lv_at hl 4 rfl) ?_
  have hpre := rl_BR.pre (av := .ref (a2 0) :: []) rl_nw0 (rl_P.r hP) hK2 rl_N0
  refine rl_callr hS (va_runV (As := []) (rest := []) ⟨hx, hb, hml, hown, hG⟩ (k_m_thrown l D a2 kI kZ F9 _) (cwV 0 hG (rl_gV wd_583 wd_584 wd_585 wd_19 wd_586) rfl rfl rfl (by decide +kernel) ⟨Nat.le_of_ble_eq_true rfl, Nat.le_of_ble_eq_true rfl⟩) ⟨hpre.1, (va_recv hK (rl_P.r hP) (ci := 5) (q0 := 0) rfl rfl), hpre.2⟩ rfl rfl hl.1 rfl (lv_room (Nat.le_of_ble_eq_true rfl)) d_w_law_901 ⟨Nat.le_of_ble_eq_true rfl, Nat.le_of_ble_eq_true rfl⟩) (fun r10 locs h11 hS => ?_)
  obtain rfl : r10 = 1 := h11.trans h8.2
  refine lv_iload hx hb d_w_law_904 (lv_at hl 1 rfl) ?_
  refine lv_icmp_eq (tgt := 911) hx hb d_w_law_906 (by decide) (fun _ => ?_) (fun c9 => absurd c9 (by decide))
  refine lv_iload hx hb d_w_law_911 (lv_at hl 1 rfl) ?_
  refine lv_if_ne (tgt := 928) hx hb d_w_law_913 (by decide) (fun _ => ?_) (fun c9 => absurd c9 (by decide))
  refine lv_goto (tgt := 931) hx hb d_w_law_928 (by decide) ?_
  exact law_end hx hb hr hlocks hX hbl hS (Nat.le_of_ble_eq_true rfl) (Nat.le_of_ble_eq_true rfl) (lv_sub hl [2, 6] rfl)
end
section
theorem rl_vk {own tx : String} {k : Nat} {a : Array Value} {s : State} (h : (Cond.stringRef own k tx).before a s = true) : ∃ b, vk_R own k tx b s := by
  have hcur : ∃ cur, s.vm.findClass own = some cur := by
    have h1 := h
    simp only [Cond.before, Cond.holds, Cond.value] at h1
    cases hc : s.vm.findClass own with
    | none => simp [hc] at h1
    | some cur => exact ⟨cur, rfl⟩
  obtain ⟨cur, hcur⟩ := hcur
  obtain ⟨k0, cf, i0, sa, hk0, hcf0, hcp0, hq0, hr0, hsa⟩ := Cond.stringRef_spec hcur h
  exact ⟨sa, by first | exact va_tabs rfl rfl h | exact h, by first | exact hsa | (rw [Term.string_eval_of_vm (args := #[]) (rfl : s.vm = s.vm)]; exact hsa)⟩
theorem rl_nw_ok : ∀ x ∈ rl_nw, rl_nest x := by
  intro x hx
  simp only [rl_nw, List.mem_cons, List.not_mem_nil, or_false] at hx
  rcases hx with rfl | rfl | rfl | rfl <;> exact ⟨_, _, _, _, rfl⟩
set_option maxRecDepth 100000 in
theorem rl_Z0 {s : State} {b : Nat} (hts : ∀ w ∈ lw_tbl, w.before #[Value.ref b] s = true) (hgv : (Jvm.Cond.and given_1 narrow_1).before #[Value.ref b] s = true) : rl_Z s := by
  have hf := flat_of_before _ hgv
  have u1 : (Cond.isRef (.static "java/lang/Throwable" "UNASSIGNED_STACK" "[Ljava/lang/StackTraceElement;")).before #[Value.ref b] s = true := hf _ (by decide +kernel)
  have u2 : (Cond.isRef (.static "java/lang/Throwable" "SUPPRESSED_SENTINEL" "Ljava/util/List;")).before #[Value.ref b] s = true := hf _ (by decide +kernel)
  have u3 : (Cond.laysStatic "java/lang/Throwable" "UNASSIGNED_STACK" "[Ljava/lang/StackTraceElement;").before #[Value.ref b] s = true := hts _ (List.mem_of_getElem? (i := 425) rfl)
  have u4 : (Cond.laysStatic "java/lang/Throwable" "SUPPRESSED_SENTINEL" "Ljava/util/List;").before #[Value.ref b] s = true := hts _ (List.mem_of_getElem? (i := 427) rfl)
  refine ⟨fun w hw a => ?_, fun k tx hk => ?_, fun w hw => ?_⟩
  · have q1 := rl_Z1 (U := s) (a' := a) (Vm.Alike.refl s.vm) (fun _ _ h => h) u3 u1
    have q2 := rl_Z1 (U := s) (a' := a) (Vm.Alike.refl s.vm) (fun _ _ h => h) u4 u2
    simp only [rl_Zw, List.mem_cons, List.not_mem_nil, or_false] at hw
    rcases hw with rfl | rfl | rfl | rfl
    · exact q1.2
    · exact q2.2
    · exact q1.1
    · exact q2.1
  · simp only [rl_Zs, List.mem_cons, List.not_mem_nil, or_false, Prod.mk.injEq] at hk
    rcases hk with ⟨rfl, rfl⟩ | ⟨rfl, rfl⟩ | ⟨rfl, rfl⟩
    · exact rl_vk (hts _ (List.mem_of_getElem? (i := 437) rfl))
    · exact rl_vk (hts _ (List.mem_of_getElem? (i := 464) rfl))
    · exact rl_vk (hts _ (List.mem_of_getElem? (i := 476) rfl))
  · simp only [rl_Zd, List.mem_cons, List.not_mem_nil, or_false] at hw
    rcases hw with rfl | rfl | rfl
    · exact va_Nw.of rfl (hts _ (List.mem_of_getElem? (i := 402) rfl))
    · exact va_Nw.of rfl (hts _ (List.mem_of_getElem? (i := 404) rfl))
    · exact va_Nw.of rfl (hts _ (List.mem_of_getElem? (i := 406) rfl))
set_option maxHeartbeats 4000000 in
set_option maxRecDepth 100000 in
theorem whole_start {p : Program} {e : Env} {s : State} {m : MethodId} {below : List Frame} {meth : Method} {c : Code} (l : Launch) (hlt : l.stackTraces = false) {b L : Nat} {xs : Nat → Int32} (hL : L ≤ 6) (C0 : lw_At p s m meth c b L xs) : W p l e room_1 s m #[Value.ref b] below meth c s.heap [] 0 0 (lw_Z below #[Value.ref b] s) (entryFrame m ([Value.ref b] : List Value).toArray 7) := by
  obtain ⟨hx, hb, hr, hml, hown, hts, hX, hbl, hlocks, hgv⟩ := id C0
  have hown : s.vm.findClass "RightsLimitLaw" = some m.cls := hown
  have hG : ∀ w ∈ rl_G, w.before #[Value.ref b] s = true := fun w h => hts w (rl_G_in h)
  have hA : ∀ q : Nat, s.heap.size ≤ q → (fun q : Nat => s.heap.size ≤ q) q := fun _ h => h
  have hbA : ¬ (fun q : Nat => s.heap.size ≤ q) b := Nat.not_le.mpr hbl
  obtain ⟨c0, iS0, hKn0⟩ := u_known (C := "RightsLimit") (T := fT_x) (N := 8) (n := 8) hG fi_x (hG _ wd_25)
  obtain ⟨c1, iS1, hKn1⟩ := u_known (C := "RightsLimit$Titles") (T := fT_t) (N := 5) (n := 5) hG fi_t (hG _ wd_33)
  obtain ⟨c2, iS2, hKn2⟩ := u_known (C := "RightsLimit$Limits") (T := fT_l) (N := 5) (n := 5) hG fi_l (hG _ wd_61)
  obtain ⟨c3, iS3, hKn3⟩ := u_known (C := "RightsLimit$Licences") (T := fT_c) (N := 6) (n := 6) hG fi_c (hG _ wd_86)
  obtain ⟨c4, iS4, hKn4⟩ := u_known (C := "RightsLimit$Requests") (T := fT_q) (N := 13) (n := 13) hG fi_q (hG _ wd_112)
  obtain ⟨c5, iS5, hKn5⟩ := u_known (C := "RightsLimitModel") (T := fT_m) (N := 33) (n := 33) hG fi_m (hG _ wd_478)
  obtain ⟨dC, dI, hKc⟩ : ∃ (dC : Nat → ClassId) (dI : Nat → Nat → Nat), ∀ (k : Nat) (q : vw_C), rl_cl[k]? = some q → u_Kn s q.1 q.2.1 q.2.2 (dC k) (dI k) := by
    refine ⟨fun k => match k with | 0 => c0 | 1 => c1 | 2 => c2 | 3 => c3 | 4 => c4 | _ => c5, fun k => match k with | 0 => iS0 | 1 => iS1 | 2 => iS2 | 3 => iS3 | 4 => iS4 | _ => iS5, ?_⟩
    intro k q hq
    match k, hq with
    | 0, hq => cases hq; exact hKn0
    | 1, hq => cases hq; exact hKn1
    | 2, hq => cases hq; exact hKn2
    | 3, hq => cases hq; exact hKn3
    | 4, hq => cases hq; exact hKn4
    | 5, hq => cases hq; exact hKn5
    | k + 6, hq => simp [rl_cl] at hq
  obtain ⟨kI, hI1, hI2⟩ := rl_arr (ty := .int) (fun _ h => by cases h) (hG _ wd_58)
  obtain ⟨kZ, hZ1, hZ2⟩ := rl_arr (ty := .boolean) (fun _ h => by cases h) (hG _ wd_59)
  obtain ⟨kL, hL1, hL2⟩ := rl_arr (ty := .long) (fun _ h => by cases h) (hG _ wd_689)
  have hK : va_K (dC, dI) rl_cl (rl_t3 kI kZ kL) s := by
    refine ⟨hKc, fun k q h => ?_⟩
    match k, h with
    | 0, h => cases h; exact ⟨hI1, hI2⟩
    | 1, h => cases h; exact ⟨hZ1, hZ2⟩
    | 2, h => cases h; exact ⟨hL1, hL2⟩
    | k + 3, h => simp at h
  obtain ⟨D, hDe⟩ : ∃ D : va_G, D = (dC, dI) := ⟨_, rfl⟩
  rw [← hDe] at hK
  have hK2 := hK.sub (tys' := rl_tys kI kZ) [0, 1] rfl
  have hZ := rl_Z0 hts hgv
  have hC : va_Nw (.castable rl_NSE rl_NSE) s := va_Nw.of rfl (hts _ (List.mem_of_getElem? (i := 400) rfl))
  have hNx : ∀ x ∈ rl_nw, va_Nw x s := by
    intro x hx
    simp only [rl_nw, List.mem_cons, List.not_mem_nil, or_false] at hx
    rcases hx with rfl | rfl | rfl | rfl
    · exact va_Nw.of rfl (hts _ (List.mem_of_getElem? (i := 34) rfl))
    · exact va_Nw.of rfl (hts _ (List.mem_of_getElem? (i := 62) rfl))
    · exact va_Nw.of rfl (hts _ (List.mem_of_getElem? (i := 87) rfl))
    · exact va_Nw.of rfl (hts _ (List.mem_of_getElem? (i := 113) rfl))
  have hS : va_S (fun q : Nat => s.heap.size ≤ q) s.heap s.heap [] := va_S.rf
  have hP : va_P D rl_cl [] s.heap := rl_P0
  have hD : va_D (fun q : Nat => s.heap.size ≤ q) [] := rl_D0
  have hl := lv_entry ([.ref b]) (n := 7) (Nat.le_of_ble_eq_true rfl)
  rw [lg_entry_eq]
  generalize (lg_sl ([.ref b]) ++ List.replicate (7 - (lg_sl ([.ref b])).length) Slot.unset).toArray = ls at hl ⊢
  have hl : lv_has ls 7 [(0, .ref b)] := hl
  refine va_new (ci := 0) (fs := [.null, .null, .null, .null, .null, .null, .int 0, .int 0]) (C := "RightsLimit") (T := fT_x) (N := 8) hx hb hG fi_x fy_x fo_x hown (hG _ wd_24) (hG _ wd_25) (hG _ wd_14) hK hP hD hS hA rfl (by decide +kernel) (Nat.le_of_ble_eq_true rfl) (Nat.le_of_ble_eq_true rfl) d_w_law_0 (fun h1 H hP hD hS => ?_)
  have hP : va_P D rl_cl ([(h1, .inr (0, [.null, .null, .null, .null, .null, .null, .int 0, .int 0]))] ++ []) H := hP
  have hD : va_D (fun q : Nat => s.heap.size ≤ q) ([(h1, .inr (0, [.null, .null, .null, .null, .null, .null, .int 0, .int 0]))] ++ []) := hD
  refine lv_dup hx hb d_w_law_3 rfl ?_
  refine rl_callv (w1 := [(h1, .inr (0, [.null, .null, .null, .null, .null, .null, .int 0, .int 0]))]) (w2 := []) hP hD hS hA (va_runI (As := []) (rest := [.ref h1]) ⟨hx, hb, hml, hown, hG⟩ (k_x_init l D h1 kI kZ _) (cwI 0 hG (rl_gI wd_28) rfl rfl rfl (hG _ wd_14) (hG _ wd_26) (hG _ wd_27) rfl (by decide +kernel) ⟨Nat.le_of_ble_eq_true rfl, Nat.le_of_ble_eq_true rfl⟩) (rl_B.pre rl_nw_ok (rl_P.l (w1 := [(h1, .inr (0, [.null, .null, .null, .null, .null, .null, .int 0, .int 0]))]) hP) hK2 (rl_D.l (w1 := [(h1, .inr (0, [.null, .null, .null, .null, .null, .null, .int 0, .int 0]))]) hD) hNx) rfl rfl hl.1 rfl (lv_room (Nat.le_of_ble_eq_true rfl)) d_w_law_4 ⟨Nat.le_of_ble_eq_true rfl, Nat.le_of_ble_eq_true rfl⟩) (fun a H locs hw hP hD hS => ?_)
  rw [← hw]
  have hP : va_P D rl_cl (rl_w a kI kZ rl_F0) H := by rw [List.append_nil] at hP; exact hP
  have hD : va_D (fun q : Nat => s.heap.size ≤ q) (rl_w a kI kZ rl_F0) := by rw [List.append_nil] at hD; exact hD
  refine lv_astore_n (lv' := [(1, .ref (a 0)), (0, .ref b)]) hx hb d_w_law_7 rfl hl (by decide) rfl (fun ls hl => ?_)
  refine va_new (ci := 5) (fs := [.int 0, .int 0, .int 0, .null, .null, .null, .null, .null, .null, .int 0, .null, .null, .null, .null, .int 0, .null, .null, .null, .null, .null, .int 0, .null, .null, .null, .null, .null, .null, .null, .null, .null, .null, .null, .int 0]) (C := "RightsLimitModel") (T := fT_m) (N := 33) hx hb hG fi_m fy_m fo_m hown (hG _ wd_477) (hG _ wd_478) (hG _ wd_19) hK hP hD hS hA rfl (by decide +kernel) (Nat.le_of_ble_eq_true rfl) (Nat.le_of_ble_eq_true rfl) d_w_law_8 (fun h2 H hP hD hS => ?_)
  have hP := rl_P.swap hP
  have hD := rl_D.swap hD
  refine lv_dup hx hb d_w_law_11 rfl ?_
  refine rl_callv (w1 := [(h2, .inr (5, [.int 0, .int 0, .int 0, .null, .null, .null, .null, .null, .null, .int 0, .null, .null, .null, .null, .int 0, .null, .null, .null, .null, .null, .int 0, .null, .null, .null, .null, .null, .null, .null, .null, .null, .null, .null, .int 0]))]) (w2 := rl_w a kI kZ rl_F0) hP hD hS hA (va_runI (As := []) (rest := [.ref h2]) ⟨hx, hb, hml, hown, hG⟩ (k_m_init l D h2 kI kZ _) (cwI 0 hG (rl_gI wd_481) rfl rfl rfl (hG _ wd_19) (hG _ wd_479) (hG _ wd_480) rfl (by decide +kernel) ⟨Nat.le_of_ble_eq_true rfl, Nat.le_of_ble_eq_true rfl⟩) (rl_B.pre rl_nw0 (rl_P.l (w1 := [(h2, .inr (5, [.int 0, .int 0, .int 0, .null, .null, .null, .null, .null, .null, .int 0, .null, .null, .null, .null, .int 0, .null, .null, .null, .null, .null, .int 0, .null, .null, .null, .null, .null, .null, .null, .null, .null, .null, .null, .int 0]))]) hP) hK2 (rl_D.l (w1 := [(h2, .inr (5, [.int 0, .int 0, .int 0, .null, .null, .null, .null, .null, .null, .int 0, .null, .null, .null, .null, .int 0, .null, .null, .null, .null, .null, .int 0, .null, .null, .null, .null, .null, .null, .null, .null, .null, .null, .null, .int 0]))]) hD) rl_N0) rfl rfl hl.1 rfl (lv_room (Nat.le_of_ble_eq_true rfl)) d_w_law_12 ⟨Nat.le_of_ble_eq_true rfl, Nat.le_of_ble_eq_true rfl⟩) (fun a2 H locs hw hP hD hS => ?_)
  rw [← hw]
  refine lv_astore_n (lv' := [(2, .ref (a2 0)), (1, .ref (a 0)), (0, .ref b)]) hx hb d_w_law_15 rfl hl (by decide) rfl (fun ls hl => ?_)
  refine lv_iconst (v := 1) hx hb d_w_law_16 (by decide) ?_
  refine rl_newa (atype := .long) (ty := .long) (N' := 1) (a0 := (1, .inr (.inl (fun _ => 0)))) hx hb (hG _ wd_689) rfl (fun _ h9 => by cases h9) 2 rfl hK hP hD hS hA (fun _ => rfl) (by decide) (by decide) (by decide) (Nat.le_of_ble_eq_true rfl) (Nat.le_of_ble_eq_true rfl) d_w_law_17 (fun q H hP hD hS => ?_)
  have hP : va_P D rl_cl ((rl_w a kI kZ rl_F0 ++ rl_O kL q (fun _ => 0)) ++ rm_w a2 kI kZ rm_F0) H := by rw [List.append_assoc] at hP; exact rl_P.swap hP
  have hD : va_D (fun q : Nat => s.heap.size ≤ q) ((rl_w a kI kZ rl_F0 ++ rl_O kL q (fun _ => 0)) ++ rm_w a2 kI kZ rm_F0) := by rw [List.append_assoc] at hD; exact rl_D.swap hD
  refine lv_astore_n (lv' := [(3, .ref q), (2, .ref (a2 0)), (1, .ref (a 0)), (0, .ref b)]) hx hb d_w_law_19 rfl hl (by decide) rfl (fun ls hl => ?_)
  refine lv_iconst (v := 0) hx hb d_w_law_20 (by decide) ?_
  refine lv_istore (lv' := [(4, .int 0), (3, .ref q), (2, .ref (a2 0)), (1, .ref (a 0)), (0, .ref b)]) hx hb d_w_law_21 hl (by decide) rfl (fun ls hl => ?_)
  by_cases hL6 : L = 6
  · subst hL6
    refine lv_iload hx hb d_w_law_23 (lv_at hl 0 rfl) ?_
    refine lv_aload_n hx hb d_w_law_25 rfl (lv_at hl 4 rfl) ?_
    refine va_slen hx hb hX hbl hbA hS d_w_law_26 ?_
    refine lv_bipush (v := 6) hx hb d_w_law_27 (by decide) ?_
    refine lv_isub hx hb d_w_law_29 ?_
    refine lv_icmp_gt (tgt := 937) hx hb d_w_law_30 (by decide) (fun c9 => absurd c9 (by decide)) (fun _ => ?_)
    refine lv_aload_n hx hb d_w_law_33 rfl (lv_at hl 4 rfl) ?_
    refine lv_iload hx hb d_w_law_34 (lv_at hl 0 rfl) ?_
    refine va_sld hx hb hX hbl hbA hS (rl_in (x := 0) (n := 6) (by decide) (by decide)) d_w_law_36 ?_
    refine lv_bipush (v := 31) hx hb d_w_law_37 (by decide) ?_
    refine lv_iand hx hb d_w_law_39 ?_
    refine lv_topi (fun v ev => ?_)
    have C9 : lw_I p l s m meth c b xs D a a2 kI kZ kL q H _ ls := ⟨hx, hb, hr, hml, hown, hG, hlocks, hX, hbl, hK, hZ, hC, hlt, hP, hD, hS, hl⟩
    by_cases hsw : v.toInt < 0 ∨ 16 < v.toInt
    · refine lv_tableOut (tgt := 931) hx hb d_w_law_40 hsw (by decide) ?_
      exact law_end hx hb hr hlocks hX hbl hS (Nat.le_of_ble_eq_true rfl) (Nat.le_of_ble_eq_true rfl) (lv_sub hl [0, 4] rfl)
    · have hsk : v.toInt = 0 ∨ v.toInt = 1 ∨ v.toInt = 2 ∨ v.toInt = 3 ∨ v.toInt = 4 ∨ v.toInt = 5 ∨ v.toInt = 6 ∨ v.toInt = 7 ∨ v.toInt = 8 ∨ v.toInt = 9 ∨ v.toInt = 10 ∨ v.toInt = 11 ∨ v.toInt = 12 ∨ v.toInt = 13 ∨ v.toInt = 14 ∨ v.toInt = 15 ∨ v.toInt = 16 := by omega
      rcases hsk with hsk | hsk | hsk | hsk | hsk | hsk | hsk | hsk | hsk | hsk | hsk | hsk | hsk | hsk | hsk | hsk | hsk
      · refine lv_tableIn (off := 84) (tgt := 124) hx hb d_w_law_40 (by omega) (by omega) (by rw [hsk]; rfl) (by decide) ?_
        exact law_0 C9
      · refine lv_tableIn (off := 109) (tgt := 149) hx hb d_w_law_40 (by omega) (by omega) (by rw [hsk]; rfl) (by decide) ?_
        exact law_1 C9
      · refine lv_tableIn (off := 162) (tgt := 202) hx hb d_w_law_40 (by omega) (by omega) (by rw [hsk]; rfl) (by decide) ?_
        exact law_2 C9
      · refine lv_tableIn (off := 223) (tgt := 263) hx hb d_w_law_40 (by omega) (by omega) (by rw [hsk]; rfl) (by decide) ?_
        exact law_3 C9
      · refine lv_tableIn (off := 296) (tgt := 336) hx hb d_w_law_40 (by omega) (by omega) (by rw [hsk]; rfl) (by decide) ?_
        exact law_4 C9
      · refine lv_tableIn (off := 333) (tgt := 373) hx hb d_w_law_40 (by omega) (by omega) (by rw [hsk]; rfl) (by decide) ?_
        exact law_5 C9
      · refine lv_tableIn (off := 406) (tgt := 446) hx hb d_w_law_40 (by omega) (by omega) (by rw [hsk]; rfl) (by decide) ?_
        exact law_6 C9
      · refine lv_tableIn (off := 419) (tgt := 459) hx hb d_w_law_40 (by omega) (by omega) (by rw [hsk]; rfl) (by decide) ?_
        exact law_7 C9
      · refine lv_tableIn (off := 484) (tgt := 524) hx hb d_w_law_40 (by omega) (by omega) (by rw [hsk]; rfl) (by decide) ?_
        exact law_8 C9
      · refine lv_tableIn (off := 521) (tgt := 561) hx hb d_w_law_40 (by omega) (by omega) (by rw [hsk]; rfl) (by decide) ?_
        exact law_9 C9
      · refine lv_tableIn (off := 558) (tgt := 598) hx hb d_w_law_40 (by omega) (by omega) (by rw [hsk]; rfl) (by decide) ?_
        exact law_10 C9
      · refine lv_tableIn (off := 595) (tgt := 635) hx hb d_w_law_40 (by omega) (by omega) (by rw [hsk]; rfl) (by decide) ?_
        exact law_11 C9
      · refine lv_tableIn (off := 632) (tgt := 672) hx hb d_w_law_40 (by omega) (by omega) (by rw [hsk]; rfl) (by decide) ?_
        exact law_12 C9
      · refine lv_tableIn (off := 693) (tgt := 733) hx hb d_w_law_40 (by omega) (by omega) (by rw [hsk]; rfl) (by decide) ?_
        exact law_13 C9
      · refine lv_tableIn (off := 761) (tgt := 801) hx hb d_w_law_40 (by omega) (by omega) (by rw [hsk]; rfl) (by decide) ?_
        exact law_14 C9
      · refine lv_tableIn (off := 786) (tgt := 826) hx hb d_w_law_40 (by omega) (by omega) (by rw [hsk]; rfl) (by decide) ?_
        exact law_15 C9
      · refine lv_tableIn (off := 823) (tgt := 863) hx hb d_w_law_40 (by omega) (by omega) (by rw [hsk]; rfl) (by decide) ?_
        exact law_16 C9
  · have hi : nI L - 6 < 0 := by
      rcases (show L = 0 ∨ L = 1 ∨ L = 2 ∨ L = 3 ∨ L = 4 ∨ L = 5 by omega) with rfl | rfl | rfl | rfl | rfl | rfl <;> decide
    exact law_out hx hb hr hlocks hX hbl hS (Nat.le_of_ble_eq_true rfl) (Nat.le_of_ble_eq_true rfl) hi (lv_sub hl [0, 4] rfl)
set_option maxHeartbeats 4000000 in
theorem lw_walk (l : Launch) (hlt : l.stackTraces = false) (b : Addr) (xs : List Int32) : MetFree l x (headSpec (Jvm.Cond.code x code maxLocals ret :: tables_1) room_1) (lw_P b xs) (fun _ _ _ _ _ => True) lw_Q := by
  refine MetFree.of_bodyS (code := code) (maxLocals := maxLocals) (ret := ret) (by decide) ?_ ?_
  · intro args s m h hn
    obtain ⟨meth, c, h1, h2, h3, h4, h5, h6, -, -⟩ := Cond.code_spec hn (atoms_spec (ws := Jvm.Cond.code x code maxLocals ret :: tables_1) h _ List.mem_cons_self)
    exact ⟨meth, c, h1, h2, h3, h4, h5, h6⟩
  · intro p e s m args below meth c s₁ B hml0 hP _
    obtain ⟨rfl, hx, hbd, hgv⟩ := hP
    obtain ⟨scr, harrAt, hlist, hof, hsmall⟩ := hx
    obtain ⟨hcb, hkn, -, -⟩ := State.arrayAt?_spec harrAt
    have hown : s.vm.findClass R_law = some m.cls := findClass_of_methodNamed B.named
    have hts0 : ∀ c ∈ (Jvm.Cond.code x code maxLocals ret :: tables_1), c.before #[Value.ref b] s = true := atoms_spec (ws := Jvm.Cond.code x code maxLocals ret :: tables_1) B.pre
    have hts : ∀ w ∈ lw_tbl, w.before #[Value.ref b] s = true := k2_hts_sels lw_privs (fun w hw => hts0 w (List.mem_cons_of_mem _ hw)) lw_privs_ok
    have hml : c.maxLocals = 7 := B.maxLocals_eq (hts0 _ List.mem_cons_self)
    have X₀ : Stand p l e room_1 s m #[Value.ref b] below meth c s₁ [] 0 0 := Stand.of_body B
    have hh0 : s₁.heap = s.heap := by rw [B.state]; rfl
    have hsz : scr.slots.size = xs.length := by rw [← Array.length_toList, hlist, List.length_map]
    have hval : ∀ j : Nat, j < xs.length → scr.slots[j]? = some (.int (xs.getD j 0)) := fun j hj => by
      rw [← Array.getElem?_toList, hlist]
      simp [hj]
    have hbl : b < s.heap.size := (Array.getElem?_eq_some_iff.mp hcb).1
    have hX : va_X b xs.length (fun j => xs.getD j 0) s s.heap := ⟨scr, hcb, hof, hkn, hsz, hval⟩
    have K : W p l e room_1 s m #[Value.ref b] below meth c s₁.heap [] 0 0 (lw_Z below #[Value.ref b] s) (entryFrame m ([Value.ref b] : List Value).toArray 7) := by
      rw [hh0]
      exact whole_start l hlt hbd ⟨B.exec, B.bytes, B.returns, hml, hown, hts, hX, hbl, B.notSynchronized, hgv⟩
    obtain ⟨t, a1, o, b1, b2, b3⟩ := K s₁ rfl X₀
    exact ⟨t, o, a1, b1, b2, b3⟩
theorem lw_pre_spec {args : Array Value} {s : State} (h : (Jvm.Cond.and given_1 narrow_1).before args s = true) (hr : rest_1_c.before args s = true) : ∃ (b : Addr) (xs : List Int32), lw_P b xs args s := by
  have hs := flat_of_before _ h
  have hq := flat_of_before _ hr
  have hc : (Cond.count 1).before args s = true := hs _ (by decide +kernel)
  have harr : (Cond.arrayOf (.arg 0) .int).before args s = true := hs _ (by decide +kernel)
  have hle : (Cond.le (.length (.arg 0)) (.int 6)).before args s = true := hs _ (by decide +kernel)
  have hlen : (Cond.isInt (.length (.arg 0))).before args s = true := hq _ (by decide +kernel)
  have hall : (Cond.all (.arg 0) (.isInt (.elem (.arg 0) (.index 0)))).before args s = true := hq _ (by decide +kernel)
  obtain ⟨b, xs, hb, hx⟩ := State.ints_of_pre rfl harr hlen hall
  have hsm : xs.length < 2 ^ 31 := hx.choose_spec.2.2.2
  have hev : (Term.length (.arg 0)).eval args s none [] s = some (.int xs.length.toInt32) := hx.length_eval hb
  have hv := Cond.le_ints hev (show (Term.int 6).eval args s none [] s = some (.int 6) from rfl)
  have hd : xs.length.toInt32 ≤ 6 := by
    simpa [Cond.before, Cond.holds, hv] using hle
  have hN : xs.length ≤ 6 := (Int32.ofNat_le_ofNat hsm (by decide)).mp (show Int32.ofNat xs.length ≤ Int32.ofNat 6 from hd)
  exact ⟨b, xs, Cond.one_arg hc (show args[0]? = some (.ref b) from hb), hx, hN, h⟩
theorem lw_comes (l : Launch) (hlt : l.stackTraces = false) : Comes l x (Jvm.Cond.code x code maxLocals ret :: tables_1) room_1 (fun tb e args s => Calls_1 tb e args s ∧ rest_1 tb e args s ∧ Pre_1 tb e args s)
    (fun _ _ args s o t => lw_Q args s o t) := by
  intro p e ha hc hk s m args below hf hfit hheap happ hpre
  obtain ⟨b, xs, hP⟩ := lw_pre_spec hpre.2.2 hpre.2.1
  obtain ⟨k, o, h1, h2, h3, hQ⟩ := lw_walk l hlt b xs p e ha hc hk s m args below hf ((Spec.applies_iff_loose hf).mp happ).1 hP trivial
  exact ⟨k, o, h1, h2, h3, hQ⟩
theorem lw_frame {s t : State} {o : Outcome} {args : Array Value} (h : Framed s o t [] 65 10005) :
    Framed s o t (fieldLocs frame_1_writes args s ++ arrayLocs frame_1_arrays args s ++ staticLocs frame_1_statics s) 65 10005 := h
theorem lw_limb (L : Cond) (hL : ∀ (args : Array Value) (s t : State), L.after args s (.returned (some (.int 1))) t = true) :
    ArmFor flags0 classFile x code maxLocals ret World_1 tables_1 room_1 Calls_1 rest_1 Pre_1
      (fun tb e a s o t => postC L tb e a s o t ∧ Framed s o t (fieldLocs frame_1_writes a s ++ arrayLocs frame_1_arrays a s ++ staticLocs frame_1_statics s) 65 10005) := by
  intro l hfl _ _ p e ha hc hk s m args below hf hfit hheap happ hpre
  obtain ⟨k, o, h1, h2, h3, rfl, hF⟩ := lw_comes l (by rw [Launch.stackTraces, hfl]; decide) p e ha hc hk s m args below hf hfit hheap happ hpre
  exact ⟨k, _, h1, h2, h3, hL args s _, lw_frame hF⟩
theorem i_vc : Claimed_1_1 ∧ Claimed_1_2 := ⟨lw_limb limb_1_1 (fun args s t => by simp [limb_1_1, Cond.after, Cond.holds, Cond.value]), lw_limb limb_1_2 (fun args s t => Cond.after_iff.mpr (by
  first | (rw [show limb_1_2 = Cond.eq .result (.int 1) from rfl, Cond.eq_ints (x := 1) (y := 1) rfl rfl]; simp; done) | (simp [limb_1_2, Cond.value, Term.eval]; done)))⟩
end
