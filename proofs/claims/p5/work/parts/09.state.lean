abbrev rl_tys (kI kZ : ClassId) : List (ClassId × FieldType) := [(kI, .int), (kZ, .boolean)]
def rl_st (F : Nat → Nat → Int32) (r i : Nat) (x : Int32) : Nat → Nat → Int32 := va_up F r (upd (F r) i x)
def rl_F0 : Nat → Nat → Int32 := fun r i => if r = 27 then (if i = 5 then -1 else 0) else 0
def rm_F0 : Nat → Nat → Int32 := fun r i => if r = 27 then (if i = 6 then -1 else 0) else 0
def rl_w (a : Nat → Nat) (kI kZ : ClassId) (F : Nat → Nat → Int32) : va_W := [(a 0, .inr (0, [.ref (a 1), .ref (a 2), .ref (a 3), .ref (a 4), .ref (a 30), .ref (a 31), .int (F 27 4), .int (F 27 5)])), (a 1, .inr (1, [.ref (a 5), .ref (a 6), .ref (a 7), .ref (a 8), .int (F 27 0)])), (a 2, .inr (2, [.ref (a 9), .ref (a 10), .ref (a 11), .ref (a 12), .int (F 27 1)])), (a 3, .inr (3, [.ref (a 13), .ref (a 14), .ref (a 15), .ref (a 16), .ref (a 17), .int (F 27 2)])), (a 4, .inr (4, [.ref (a 18), .ref (a 19), .ref (a 20), .ref (a 21), .ref (a 22), .ref (a 23), .ref (a 24), .ref (a 25), .ref (a 26), .ref (a 27), .ref (a 28), .ref (a 29), .int (F 27 3)])), (a 5, .inl (kI, 50, .inl (F 0))), (a 6, .inl (kZ, 50, .inl (F 1))), (a 7, .inl (kI, 50, .inl (F 2))), (a 8, .inl (kI, 50, .inl (F 3))), (a 9, .inl (kI, 100, .inl (F 4))), (a 10, .inl (kI, 100, .inl (F 5))), (a 11, .inl (kI, 100, .inl (F 6))), (a 12, .inl (kI, 100, .inl (F 7))), (a 13, .inl (kI, 50, .inl (F 8))), (a 14, .inl (kI, 50, .inl (F 9))), (a 15, .inl (kI, 50, .inl (F 10))), (a 16, .inl (kI, 50, .inl (F 11))), (a 17, .inl (kI, 50, .inl (F 12))), (a 18, .inl (kI, 300, .inl (F 13))), (a 19, .inl (kI, 300, .inl (F 14))), (a 20, .inl (kI, 300, .inl (F 15))), (a 21, .inl (kI, 300, .inl (F 16))), (a 22, .inl (kI, 300, .inl (F 17))), (a 23, .inl (kI, 300, .inl (F 18))), (a 24, .inl (kI, 300, .inl (F 19))), (a 25, .inl (kI, 300, .inl (F 20))), (a 26, .inl (kI, 300, .inl (F 21))), (a 27, .inl (kI, 300, .inl (F 22))), (a 28, .inl (kI, 300, .inl (F 23))), (a 29, .inl (kI, 300, .inl (F 24))), (a 30, .inl (kI, 100, .inl (F 25))), (a 31, .inl (kI, 100, .inl (F 26)))]
def rm_w (a : Nat → Nat) (kI kZ : ClassId) (F : Nat → Nat → Int32) : va_W := [(a 0, .inr (5, [.int (F 27 0), .int (F 27 1), .int (F 27 2), .ref (a 1), .ref (a 2), .ref (a 3), .ref (a 4), .ref (a 5), .ref (a 6), .int (F 27 3), .ref (a 7), .ref (a 8), .ref (a 9), .ref (a 10), .int (F 27 4), .ref (a 11), .ref (a 12), .ref (a 13), .ref (a 14), .ref (a 15), .int (F 27 5), .ref (a 16), .ref (a 17), .ref (a 18), .ref (a 19), .ref (a 20), .ref (a 21), .ref (a 22), .ref (a 23), .ref (a 24), .ref (a 25), .ref (a 26), .int (F 27 6)])), (a 1, .inl (kI, 50, .inl (F 0))), (a 2, .inl (kZ, 50, .inl (F 1))), (a 3, .inl (kI, 50, .inl (F 2))), (a 4, .inl (kI, 50, .inl (F 3))), (a 5, .inl (kI, 100, .inl (F 4))), (a 6, .inl (kZ, 1000, .inl (F 5))), (a 7, .inl (kI, 100, .inl (F 6))), (a 8, .inl (kI, 100, .inl (F 7))), (a 9, .inl (kI, 100, .inl (F 8))), (a 10, .inl (kI, 100, .inl (F 9))), (a 11, .inl (kI, 50, .inl (F 10))), (a 12, .inl (kI, 50, .inl (F 11))), (a 13, .inl (kI, 50, .inl (F 12))), (a 14, .inl (kI, 50, .inl (F 13))), (a 15, .inl (kI, 50, .inl (F 14))), (a 16, .inl (kI, 300, .inl (F 15))), (a 17, .inl (kI, 300, .inl (F 16))), (a 18, .inl (kI, 300, .inl (F 17))), (a 19, .inl (kI, 300, .inl (F 18))), (a 20, .inl (kI, 300, .inl (F 19))), (a 21, .inl (kI, 300, .inl (F 20))), (a 22, .inl (kI, 300, .inl (F 21))), (a 23, .inl (kI, 300, .inl (F 22))), (a 24, .inl (kI, 300, .inl (F 23))), (a 25, .inl (kI, 300, .inl (F 24))), (a 26, .inl (kI, 300, .inl (F 25)))]
theorem rl_addv {x y : Int32} (h1 : -2147483648 ≤ x.toInt + y.toInt) (h2 : x.toInt + y.toInt < 2147483648) : (x + y).toInt = x.toInt + y.toInt := rl_addk rfl h1 h2
theorem rl_mulk {x k : Int32} {n : Int} (hk : k.toInt = n) (h1 : -2147483648 ≤ n * x.toInt) (h2 : n * x.toInt < 2147483648) : (k * x).toInt = n * x.toInt := by
  rw [Int32.toInt_mul, hk, Int.bmod_def]
  omega
theorem rl_nw0 : ∀ x ∈ ([] : List Cond), rl_nest x := fun _ h => nomatch h
theorem rl_N0 {s : State} : ∀ x ∈ ([] : List Cond), va_Nw x s := fun _ h => nomatch h
theorem rl_stne {F : Nat → Nat → Int32} {r r' i : Nat} {x : Int32} (h : r' ≠ r) : rl_st F r i x r' = F r' := va_up_ne _ _ h
theorem rl_steq {F : Nat → Nat → Int32} {r i : Nat} {x : Int32} : rl_st F r i x r i = x := by
  show va_up F r (upd (F r) i x) r i = x
  rw [va_up_self]
  simp [upd]
theorem rl_stnj {F : Nat → Nat → Int32} {r i j : Nat} {x : Int32} (h : j ≠ i) : rl_st F r i x r j = F r j := by
  show va_up F r (upd (F r) i x) r j = F r j
  rw [va_up_self]
  simp [upd, h]
def rl_R (F : Nat → Nat → Int32) : Prop := (∀ i, 0 ≤ (F 0 i).toInt ∧ (F 0 i).toInt < 100)
def rl_I (F : Nat → Nat → Int32) : Prop := ((0 ≤ (F 27 0).toInt ∧ (F 27 0).toInt ≤ 50) ∧ (0 ≤ (F 27 1).toInt ∧ (F 27 1).toInt ≤ 100) ∧ (0 ≤ (F 27 2).toInt ∧ (F 27 2).toInt ≤ 50) ∧ (0 ≤ (F 27 3).toInt ∧ (F 27 3).toInt ≤ 300)) ∧ rl_R F
theorem rl_keep {F F1 : Nat → Nat → Int32} {r i : Nat} {x : Int32} (e : F1 = rl_st F r i x) (h27 : r ≠ 27) (h0 : r ≠ 0) (hR : rl_R F) : ((F1 27 0).toInt = (F 27 0).toInt ∧ (F1 27 1).toInt = (F 27 1).toInt ∧ (F1 27 2).toInt = (F 27 2).toInt ∧ (F1 27 3).toInt = (F 27 3).toInt) ∧ rl_R F1 := by
  subst e
  exact ⟨by rw [rl_stne (fun h => h27 h.symm)]; exact ⟨rfl, rfl, rfl, rfl⟩, fun q => by rw [rl_stne (fun h => h0 h.symm)]; exact hR q⟩
theorem rl_keep0 {F F1 : Nat → Nat → Int32} {i : Nat} {x : Int32} (e : F1 = rl_st F 0 i x) (hx : 0 ≤ x.toInt ∧ x.toInt < 100) (hR : rl_R F) : ((F1 27 0).toInt = (F 27 0).toInt ∧ (F1 27 1).toInt = (F 27 1).toInt ∧ (F1 27 2).toInt = (F 27 2).toInt ∧ (F1 27 3).toInt = (F 27 3).toInt) ∧ rl_R F1 := by
  subst e
  exact ⟨by rw [rl_stne (by decide)]; exact ⟨rfl, rfl, rfl, rfl⟩, fun q => by
    by_cases h : q = i
    · subst h; rw [rl_steq]; exact hx
    · rw [rl_stnj h]; exact hR q⟩
theorem rl_put0 {F F1 : Nat → Nat → Int32} {x : Int32} (e : F1 = rl_st F 27 0 x) (hR : rl_R F) : ((F1 27 0).toInt = x.toInt ∧ (F1 27 1).toInt = (F 27 1).toInt ∧ (F1 27 2).toInt = (F 27 2).toInt ∧ (F1 27 3).toInt = (F 27 3).toInt) ∧ rl_R F1 := by
  subst e
  exact ⟨⟨by rw [rl_steq], by rw [rl_stnj (by decide)], by rw [rl_stnj (by decide)], by rw [rl_stnj (by decide)]⟩, fun q => by rw [rl_stne (by decide)]; exact hR q⟩
theorem rl_put1 {F F1 : Nat → Nat → Int32} {x : Int32} (e : F1 = rl_st F 27 1 x) (hR : rl_R F) : ((F1 27 0).toInt = (F 27 0).toInt ∧ (F1 27 1).toInt = x.toInt ∧ (F1 27 2).toInt = (F 27 2).toInt ∧ (F1 27 3).toInt = (F 27 3).toInt) ∧ rl_R F1 := by
  subst e
  exact ⟨⟨by rw [rl_stnj (by decide)], by rw [rl_steq], by rw [rl_stnj (by decide)], by rw [rl_stnj (by decide)]⟩, fun q => by rw [rl_stne (by decide)]; exact hR q⟩
theorem rl_put2 {F F1 : Nat → Nat → Int32} {x : Int32} (e : F1 = rl_st F 27 2 x) (hR : rl_R F) : ((F1 27 0).toInt = (F 27 0).toInt ∧ (F1 27 1).toInt = (F 27 1).toInt ∧ (F1 27 2).toInt = x.toInt ∧ (F1 27 3).toInt = (F 27 3).toInt) ∧ rl_R F1 := by
  subst e
  exact ⟨⟨by rw [rl_stnj (by decide)], by rw [rl_stnj (by decide)], by rw [rl_steq], by rw [rl_stnj (by decide)]⟩, fun q => by rw [rl_stne (by decide)]; exact hR q⟩
theorem rl_put3 {F F1 : Nat → Nat → Int32} {x : Int32} (e : F1 = rl_st F 27 3 x) (hR : rl_R F) : ((F1 27 0).toInt = (F 27 0).toInt ∧ (F1 27 1).toInt = (F 27 1).toInt ∧ (F1 27 2).toInt = (F 27 2).toInt ∧ (F1 27 3).toInt = x.toInt) ∧ rl_R F1 := by
  subst e
  exact ⟨⟨by rw [rl_stnj (by decide)], by rw [rl_stnj (by decide)], by rw [rl_stnj (by decide)], by rw [rl_steq]⟩, fun q => by rw [rl_stne (by decide)]; exact hR q⟩
theorem rl_putS {F F1 : Nat → Nat → Int32} {j : Nat} {x : Int32} (e : F1 = rl_st F 27 j x) (hj0 : j ≠ 0) (hj1 : j ≠ 1) (hj2 : j ≠ 2) (hj3 : j ≠ 3) (hR : rl_R F) : ((F1 27 0).toInt = (F 27 0).toInt ∧ (F1 27 1).toInt = (F 27 1).toInt ∧ (F1 27 2).toInt = (F 27 2).toInt ∧ (F1 27 3).toInt = (F 27 3).toInt) ∧ rl_R F1 := by
  subst e
  exact ⟨⟨by rw [rl_stnj (fun h => hj0 h.symm)], by rw [rl_stnj (fun h => hj1 h.symm)], by rw [rl_stnj (fun h => hj2 h.symm)], by rw [rl_stnj (fun h => hj3 h.symm)]⟩, fun q => by rw [rl_stne (by decide)]; exact hR q⟩
def rm_R (F : Nat → Nat → Int32) : Prop := (∀ i, 0 ≤ (F 0 i).toInt ∧ (F 0 i).toInt < 100) ∧ (∀ i, 0 ≤ (F 2 i).toInt ∧ (F 2 i).toInt < 10)
def rm_I (F : Nat → Nat → Int32) : Prop := ((0 ≤ (F 27 2).toInt ∧ (F 27 2).toInt ≤ 50) ∧ (0 ≤ (F 27 3).toInt ∧ (F 27 3).toInt ≤ 100) ∧ (0 ≤ (F 27 4).toInt ∧ (F 27 4).toInt ≤ 50) ∧ (0 ≤ (F 27 5).toInt ∧ (F 27 5).toInt ≤ 300)) ∧ rm_R F
theorem rm_keep {F F1 : Nat → Nat → Int32} {r i : Nat} {x : Int32} (e : F1 = rl_st F r i x) (h27 : r ≠ 27) (h0 : r ≠ 0) (h1 : r ≠ 2) (hR : rm_R F) : ((F1 27 2).toInt = (F 27 2).toInt ∧ (F1 27 3).toInt = (F 27 3).toInt ∧ (F1 27 4).toInt = (F 27 4).toInt ∧ (F1 27 5).toInt = (F 27 5).toInt) ∧ rm_R F1 := by
  subst e
  exact ⟨by rw [rl_stne (fun h => h27 h.symm)]; exact ⟨rfl, rfl, rfl, rfl⟩, ⟨fun q => by rw [rl_stne (fun h => h0 h.symm)]; exact hR.1 q, fun q => by rw [rl_stne (fun h => h1 h.symm)]; exact hR.2 q⟩⟩
theorem rm_keep0 {F F1 : Nat → Nat → Int32} {i : Nat} {x : Int32} (e : F1 = rl_st F 0 i x) (hx : 0 ≤ x.toInt ∧ x.toInt < 100) (hR : rm_R F) : ((F1 27 2).toInt = (F 27 2).toInt ∧ (F1 27 3).toInt = (F 27 3).toInt ∧ (F1 27 4).toInt = (F 27 4).toInt ∧ (F1 27 5).toInt = (F 27 5).toInt) ∧ rm_R F1 := by
  subst e
  exact ⟨by rw [rl_stne (by decide)]; exact ⟨rfl, rfl, rfl, rfl⟩, ⟨fun q => by
    by_cases h : q = i
    · subst h; rw [rl_steq]; exact hx
    · rw [rl_stnj h]; exact hR.1 q, fun q => by rw [rl_stne (by decide)]; exact hR.2 q⟩⟩
theorem rm_keep2 {F F1 : Nat → Nat → Int32} {i : Nat} {x : Int32} (e : F1 = rl_st F 2 i x) (hx : 0 ≤ x.toInt ∧ x.toInt < 10) (hR : rm_R F) : ((F1 27 2).toInt = (F 27 2).toInt ∧ (F1 27 3).toInt = (F 27 3).toInt ∧ (F1 27 4).toInt = (F 27 4).toInt ∧ (F1 27 5).toInt = (F 27 5).toInt) ∧ rm_R F1 := by
  subst e
  exact ⟨by rw [rl_stne (by decide)]; exact ⟨rfl, rfl, rfl, rfl⟩, ⟨fun q => by rw [rl_stne (by decide)]; exact hR.1 q, fun q => by
    by_cases h : q = i
    · subst h; rw [rl_steq]; exact hx
    · rw [rl_stnj h]; exact hR.2 q⟩⟩
theorem rm_put2 {F F1 : Nat → Nat → Int32} {x : Int32} (e : F1 = rl_st F 27 2 x) (hR : rm_R F) : ((F1 27 2).toInt = x.toInt ∧ (F1 27 3).toInt = (F 27 3).toInt ∧ (F1 27 4).toInt = (F 27 4).toInt ∧ (F1 27 5).toInt = (F 27 5).toInt) ∧ rm_R F1 := by
  subst e
  exact ⟨⟨by rw [rl_steq], by rw [rl_stnj (by decide)], by rw [rl_stnj (by decide)], by rw [rl_stnj (by decide)]⟩, ⟨fun q => by rw [rl_stne (by decide)]; exact hR.1 q, fun q => by rw [rl_stne (by decide)]; exact hR.2 q⟩⟩
theorem rm_put3 {F F1 : Nat → Nat → Int32} {x : Int32} (e : F1 = rl_st F 27 3 x) (hR : rm_R F) : ((F1 27 2).toInt = (F 27 2).toInt ∧ (F1 27 3).toInt = x.toInt ∧ (F1 27 4).toInt = (F 27 4).toInt ∧ (F1 27 5).toInt = (F 27 5).toInt) ∧ rm_R F1 := by
  subst e
  exact ⟨⟨by rw [rl_stnj (by decide)], by rw [rl_steq], by rw [rl_stnj (by decide)], by rw [rl_stnj (by decide)]⟩, ⟨fun q => by rw [rl_stne (by decide)]; exact hR.1 q, fun q => by rw [rl_stne (by decide)]; exact hR.2 q⟩⟩
theorem rm_put4 {F F1 : Nat → Nat → Int32} {x : Int32} (e : F1 = rl_st F 27 4 x) (hR : rm_R F) : ((F1 27 2).toInt = (F 27 2).toInt ∧ (F1 27 3).toInt = (F 27 3).toInt ∧ (F1 27 4).toInt = x.toInt ∧ (F1 27 5).toInt = (F 27 5).toInt) ∧ rm_R F1 := by
  subst e
  exact ⟨⟨by rw [rl_stnj (by decide)], by rw [rl_stnj (by decide)], by rw [rl_steq], by rw [rl_stnj (by decide)]⟩, ⟨fun q => by rw [rl_stne (by decide)]; exact hR.1 q, fun q => by rw [rl_stne (by decide)]; exact hR.2 q⟩⟩
theorem rm_put5 {F F1 : Nat → Nat → Int32} {x : Int32} (e : F1 = rl_st F 27 5 x) (hR : rm_R F) : ((F1 27 2).toInt = (F 27 2).toInt ∧ (F1 27 3).toInt = (F 27 3).toInt ∧ (F1 27 4).toInt = (F 27 4).toInt ∧ (F1 27 5).toInt = x.toInt) ∧ rm_R F1 := by
  subst e
  exact ⟨⟨by rw [rl_stnj (by decide)], by rw [rl_stnj (by decide)], by rw [rl_stnj (by decide)], by rw [rl_steq]⟩, ⟨fun q => by rw [rl_stne (by decide)]; exact hR.1 q, fun q => by rw [rl_stne (by decide)]; exact hR.2 q⟩⟩
theorem rm_putS {F F1 : Nat → Nat → Int32} {j : Nat} {x : Int32} (e : F1 = rl_st F 27 j x) (hj0 : j ≠ 2) (hj1 : j ≠ 3) (hj2 : j ≠ 4) (hj3 : j ≠ 5) (hR : rm_R F) : ((F1 27 2).toInt = (F 27 2).toInt ∧ (F1 27 3).toInt = (F 27 3).toInt ∧ (F1 27 4).toInt = (F 27 4).toInt ∧ (F1 27 5).toInt = (F 27 5).toInt) ∧ rm_R F1 := by
  subst e
  exact ⟨⟨by rw [rl_stnj (fun h => hj0 h.symm)], by rw [rl_stnj (fun h => hj1 h.symm)], by rw [rl_stnj (fun h => hj2 h.symm)], by rw [rl_stnj (fun h => hj3 h.symm)]⟩, ⟨fun q => by rw [rl_stne (by decide)]; exact hR.1 q, fun q => by rw [rl_stne (by decide)]; exact hR.2 q⟩⟩
def rm_C (G : Nat → Nat → Int32) (t k u j : Int32) : Prop := (G 10 j.toNatClampNeg).toInt = t.toInt ∧ (G 11 j.toNatClampNeg).toInt = k.toInt ∧ (G 13 j.toNatClampNeg).toInt ≤ u.toInt ∧ u.toInt ≤ (G 14 j.toNatClampNeg).toInt ∧ 0 < (G 12 j.toNatClampNeg).toInt
def rm_Ex (G : Nat → Nat → Int32) (t k u : Int32) : Prop := ∃ j : Int32, 0 ≤ j.toInt ∧ j.toInt < (G 27 4).toInt ∧ rm_C G t k u j
theorem rm_Ex.st {F F1 : Nat → Nat → Int32} {r i : Nat} {x t k u : Int32} (e : F1 = rl_st F r i x) (h : r ≠ 10 ∧ r ≠ 11 ∧ r ≠ 12 ∧ r ≠ 13 ∧ r ≠ 14 ∧ r ≠ 27) (hE : rm_Ex F t k u) : rm_Ex F1 t k u := by
  subst e
  obtain ⟨j, h1, h2, h3⟩ := hE
  obtain ⟨n1, n2, n3, n4, n5, n6⟩ := h
  refine ⟨j, h1, by rw [rl_stne (fun h => n6 h.symm)]; exact h2, ?_⟩
  unfold rm_C at h3 ⊢
  rw [rl_stne (fun h => n1 h.symm), rl_stne (fun h => n2 h.symm), rl_stne (fun h => n3 h.symm), rl_stne (fun h => n4 h.symm), rl_stne (fun h => n5 h.symm)]
  exact h3
def rl_nw : List Cond := [.methodLinkNest "RightsLimit" 11 ⟨"RightsLimit$Titles", "<init>", "()V"⟩ "RightsLimit", .methodLinkNest "RightsLimit" 18 ⟨"RightsLimit$Limits", "<init>", "()V"⟩ "RightsLimit", .methodLinkNest "RightsLimit" 25 ⟨"RightsLimit$Licences", "<init>", "()V"⟩ "RightsLimit", .methodLinkNest "RightsLimit" 32 ⟨"RightsLimit$Requests", "<init>", "()V"⟩ "RightsLimit", .methodLinkNest "RightsLimit$Licences" 31 ⟨"RightsLimit", "isBetween", "(III)Z"⟩ "RightsLimit", .methodLinkNest "RightsLimit$Requests" 68 ⟨"RightsLimit", "isBetween", "(III)Z"⟩ "RightsLimit"]
theorem rl_nw_ok : ∀ x ∈ rl_nw, rl_nest x := by
  intro x hx
  simp only [rl_nw, List.mem_cons, List.not_mem_nil, or_false] at hx
  rcases hx with rfl | rfl | rfl | rfl | rfl | rfl <;> exact ⟨_, _, _, _, rfl⟩
