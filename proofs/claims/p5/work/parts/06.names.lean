def rl_G : List Cond := lw_tbl.filter goodWord
theorem rl_G_in {w : Cond} (h : w ∈ rl_G) : w ∈ lw_tbl := (List.mem_filter.mp h).1
theorem rl_wd {w : Cond} (i : Nat) (h : lw_tbl[i]? = some w) (g : goodWord w = true) : w ∈ rl_G := List.mem_filter.mpr ⟨List.mem_of_getElem? h, g⟩
theorem rl_good {w : Cond} (h : w ∈ rl_G) : (w.onTables && w.keeps) = true ∨ ∃ ty, w = .arrayClass ty := good_of_word (List.mem_filter.mp h).2
theorem rl_gV {own C : String} {idx maxL : Nat} {y : MethodName} {cc : ByteArray} {ret : Option FieldType} (h1 : Cond.methodLink own idx y ∈ rl_G) (h2 : Cond.instanceMethod y ∈ rl_G) (h3 : Cond.selects C y y ∈ rl_G) (h4 : Cond.initialized C ∈ rl_G) (h5 : Cond.code y cc maxL ret ∈ rl_G) : GoodIn rl_G (wsV own idx C y (Cond.code y cc maxL ret :: rl_G)) := by
  intro w hw
  simp only [wsV, List.cons_append, List.nil_append, List.mem_cons] at hw
  rcases hw with rfl | rfl | rfl | rfl | rfl | h
  · exact ⟨h1, rl_good h1⟩
  · exact ⟨h2, rl_good h2⟩
  · exact ⟨h3, rl_good h3⟩
  · exact ⟨h4, rl_good h4⟩
  · exact ⟨h5, rl_good h5⟩
  · exact ⟨h, rl_good h⟩
theorem rl_gS {own : String} {idx maxL : Nat} {y : MethodName} {cc : ByteArray} {ret : Option FieldType} (h1 : Cond.methodLink own idx y ∈ rl_G) (h2 : Cond.static y ∈ rl_G) (h4 : Cond.initialized own ∈ rl_G) (h5 : Cond.code y cc maxL ret ∈ rl_G) : GoodIn rl_G (wsS own idx y (Cond.code y cc maxL ret :: rl_G)) := by
  intro w hw
  simp only [wsS, List.cons_append, List.nil_append, List.mem_cons] at hw
  rcases hw with rfl | rfl | rfl | rfl | h
  · exact ⟨h1, rl_good h1⟩
  · exact ⟨h2, rl_good h2⟩
  · exact ⟨h4, rl_good h4⟩
  · exact ⟨h5, rl_good h5⟩
  · exact ⟨h, rl_good h⟩
theorem rl_gH {own : String} {idx maxL : Nat} {y : MethodName} {cc : ByteArray} {ret : Option FieldType} {hh : List (Nat × Nat × Nat × Nat)} (h1 : Cond.methodLink own idx y ∈ rl_G) (h2 : Cond.static y ∈ rl_G) (h4 : Cond.initialized own ∈ rl_G) (h5 : Cond.codeWith y cc maxL ret hh ∈ rl_G) : GoodIn rl_G (wsS own idx y (Cond.codeWith y cc maxL ret hh :: rl_G)) := by
  intro w hw
  simp only [wsS, List.cons_append, List.nil_append, List.mem_cons] at hw
  rcases hw with rfl | rfl | rfl | rfl | h
  · exact ⟨h1, rl_good h1⟩
  · exact ⟨h2, rl_good h2⟩
  · exact ⟨h4, rl_good h4⟩
  · exact ⟨h5, rl_good h5⟩
  · exact ⟨h, rl_good h⟩
theorem rl_gI {maxL : Nat} {y : MethodName} {cc : ByteArray} {ret : Option FieldType} (h5 : Cond.code y cc maxL ret ∈ rl_G) : GoodIn rl_G (Cond.code y cc maxL ret :: rl_G) := fun w hw => (List.mem_cons.mp hw).elim (fun e => by rw [e]; exact ⟨h5, rl_good h5⟩) (fun h => ⟨h, rl_good h⟩)
def fT_x : u_T := fun k => match k with
  | 0 => ("RightsLimit", "titles", "LRightsLimit$Titles;", true)
  | 1 => ("RightsLimit", "limits", "LRightsLimit$Limits;", true)
  | 2 => ("RightsLimit", "licences", "LRightsLimit$Licences;", true)
  | 3 => ("RightsLimit", "requests", "LRightsLimit$Requests;", true)
  | 4 => ("RightsLimit", "feeOfPublisher", "[I", true)
  | 5 => ("RightsLimit", "rightsOfPerson", "[I", true)
  | 6 => ("RightsLimit", "now", "I", false)
  | _ => ("RightsLimit", "latestWhy", "I", false)
def fy_x : Nat → FieldType := fun k => match k with
  | 0 => .object "RightsLimit$Titles"
  | 1 => .object "RightsLimit$Limits"
  | 2 => .object "RightsLimit$Licences"
  | 3 => .object "RightsLimit$Requests"
  | 4 => .array .int
  | 5 => .array .int
  | 6 => .int
  | _ => .int
theorem fn_x : ∀ a, a < 8 → ∀ b, b < 8 → a ≠ b → (fT_x a).2.1 ≠ (fT_x b).2.1 := by decide +kernel
theorem fo_x : ∀ k, k < 8 → parseFieldDescriptor (fT_x k).2.2.1 = some (fy_x k) := by decide +kernel
theorem fi_x : ∀ w ∈ u_ws "RightsLimit" fT_x 8, w ∈ rl_G := by
  have h1 : ∀ w ∈ u_ws "RightsLimit" fT_x 8, w ∈ lw_tbl := by decide +kernel
  have h2 : (u_ws "RightsLimit" fT_x 8).all goodWord = true := by decide +kernel
  exact fun w hw => List.mem_filter.mpr ⟨h1 w hw, List.all_eq_true.mp h2 w hw⟩
def fT_t : u_T := fun k => match k with
  | 0 => ("RightsLimit$Titles", "publisher", "[I", true)
  | 1 => ("RightsLimit$Titles", "isOpen", "[Z", true)
  | 2 => ("RightsLimit$Titles", "rightToWaive", "[I", true)
  | 3 => ("RightsLimit$Titles", "waiversLeft", "[I", true)
  | _ => ("RightsLimit$Titles", "count", "I", false)
def fy_t : Nat → FieldType := fun k => match k with
  | 0 => .array .int
  | 1 => .array .boolean
  | 2 => .array .int
  | 3 => .array .int
  | _ => .int
theorem fn_t : ∀ a, a < 5 → ∀ b, b < 5 → a ≠ b → (fT_t a).2.1 ≠ (fT_t b).2.1 := by decide +kernel
theorem fo_t : ∀ k, k < 5 → parseFieldDescriptor (fT_t k).2.2.1 = some (fy_t k) := by decide +kernel
theorem fi_t : ∀ w ∈ u_ws "RightsLimit$Titles" fT_t 5, w ∈ rl_G := by
  have h1 : ∀ w ∈ u_ws "RightsLimit$Titles" fT_t 5, w ∈ lw_tbl := by decide +kernel
  have h2 : (u_ws "RightsLimit$Titles" fT_t 5).all goodWord = true := by decide +kernel
  exact fun w hw => List.mem_filter.mpr ⟨h1 w hw, List.all_eq_true.mp h2 w hw⟩
def fT_l : u_T := fun k => match k with
  | 0 => ("RightsLimit$Limits", "title", "[I", true)
  | 1 => ("RightsLimit$Limits", "kind", "[I", true)
  | 2 => ("RightsLimit$Limits", "days", "[I", true)
  | 3 => ("RightsLimit$Limits", "copies", "[I", true)
  | _ => ("RightsLimit$Limits", "count", "I", false)
def fy_l : Nat → FieldType := fun k => match k with
  | 0 => .array .int
  | 1 => .array .int
  | 2 => .array .int
  | 3 => .array .int
  | _ => .int
theorem fn_l : ∀ a, a < 5 → ∀ b, b < 5 → a ≠ b → (fT_l a).2.1 ≠ (fT_l b).2.1 := by decide +kernel
theorem fo_l : ∀ k, k < 5 → parseFieldDescriptor (fT_l k).2.2.1 = some (fy_l k) := by decide +kernel
theorem fi_l : ∀ w ∈ u_ws "RightsLimit$Limits" fT_l 5, w ∈ rl_G := by
  have h1 : ∀ w ∈ u_ws "RightsLimit$Limits" fT_l 5, w ∈ lw_tbl := by decide +kernel
  have h2 : (u_ws "RightsLimit$Limits" fT_l 5).all goodWord = true := by decide +kernel
  exact fun w hw => List.mem_filter.mpr ⟨h1 w hw, List.all_eq_true.mp h2 w hw⟩
def fT_c : u_T := fun k => match k with
  | 0 => ("RightsLimit$Licences", "title", "[I", true)
  | 1 => ("RightsLimit$Licences", "kind", "[I", true)
  | 2 => ("RightsLimit$Licences", "copiesLeft", "[I", true)
  | 3 => ("RightsLimit$Licences", "from", "[I", true)
  | 4 => ("RightsLimit$Licences", "to", "[I", true)
  | _ => ("RightsLimit$Licences", "count", "I", false)
def fy_c : Nat → FieldType := fun k => match k with
  | 0 => .array .int
  | 1 => .array .int
  | 2 => .array .int
  | 3 => .array .int
  | 4 => .array .int
  | _ => .int
theorem fn_c : ∀ a, a < 6 → ∀ b, b < 6 → a ≠ b → (fT_c a).2.1 ≠ (fT_c b).2.1 := by decide +kernel
theorem fo_c : ∀ k, k < 6 → parseFieldDescriptor (fT_c k).2.2.1 = some (fy_c k) := by decide +kernel
theorem fi_c : ∀ w ∈ u_ws "RightsLimit$Licences" fT_c 6, w ∈ rl_G := by
  have h1 : ∀ w ∈ u_ws "RightsLimit$Licences" fT_c 6, w ∈ lw_tbl := by decide +kernel
  have h2 : (u_ws "RightsLimit$Licences" fT_c 6).all goodWord = true := by decide +kernel
  exact fun w hw => List.mem_filter.mpr ⟨h1 w hw, List.all_eq_true.mp h2 w hw⟩
def fT_q : u_T := fun k => match k with
  | 0 => ("RightsLimit$Requests", "person", "[I", true)
  | 1 => ("RightsLimit$Requests", "title", "[I", true)
  | 2 => ("RightsLimit$Requests", "kind", "[I", true)
  | 3 => ("RightsLimit$Requests", "pages", "[I", true)
  | 4 => ("RightsLimit$Requests", "time", "[I", true)
  | 5 => ("RightsLimit$Requests", "by", "[I", true)
  | 6 => ("RightsLimit$Requests", "licence", "[I", true)
  | 7 => ("RightsLimit$Requests", "centsEachTime", "[I", true)
  | 8 => ("RightsLimit$Requests", "centsInAll", "[I", true)
  | 9 => ("RightsLimit$Requests", "end", "[I", true)
  | 10 => ("RightsLimit$Requests", "renewals", "[I", true)
  | 11 => ("RightsLimit$Requests", "deletedAt", "[I", true)
  | _ => ("RightsLimit$Requests", "count", "I", false)
def fy_q : Nat → FieldType := fun k => match k with
  | 0 => .array .int
  | 1 => .array .int
  | 2 => .array .int
  | 3 => .array .int
  | 4 => .array .int
  | 5 => .array .int
  | 6 => .array .int
  | 7 => .array .int
  | 8 => .array .int
  | 9 => .array .int
  | 10 => .array .int
  | 11 => .array .int
  | _ => .int
theorem fn_q : ∀ a, a < 13 → ∀ b, b < 13 → a ≠ b → (fT_q a).2.1 ≠ (fT_q b).2.1 := by decide +kernel
theorem fo_q : ∀ k, k < 13 → parseFieldDescriptor (fT_q k).2.2.1 = some (fy_q k) := by decide +kernel
theorem fi_q : ∀ w ∈ u_ws "RightsLimit$Requests" fT_q 13, w ∈ rl_G := by
  have h1 : ∀ w ∈ u_ws "RightsLimit$Requests" fT_q 13, w ∈ lw_tbl := by decide +kernel
  have h2 : (u_ws "RightsLimit$Requests" fT_q 13).all goodWord = true := by decide +kernel
  exact fun w hw => List.mem_filter.mpr ⟨h1 w hw, List.all_eq_true.mp h2 w hw⟩
def fT_m : u_T := fun k => match k with
  | 0 => ("RightsLimitModel", "thrown", "I", false)
  | 1 => ("RightsLimitModel", "now", "I", false)
  | 2 => ("RightsLimitModel", "titles", "I", false)
  | 3 => ("RightsLimitModel", "publisher", "[I", true)
  | 4 => ("RightsLimitModel", "isOpen", "[Z", true)
  | 5 => ("RightsLimitModel", "titleRight", "[I", true)
  | 6 => ("RightsLimitModel", "waivers", "[I", true)
  | 7 => ("RightsLimitModel", "fees", "[I", true)
  | 8 => ("RightsLimitModel", "rights", "[Z", true)
  | 9 => ("RightsLimitModel", "limits", "I", false)
  | 10 => ("RightsLimitModel", "limitTitle", "[I", true)
  | 11 => ("RightsLimitModel", "limitKind", "[I", true)
  | 12 => ("RightsLimitModel", "limitDays", "[I", true)
  | 13 => ("RightsLimitModel", "limitMost", "[I", true)
  | 14 => ("RightsLimitModel", "licences", "I", false)
  | 15 => ("RightsLimitModel", "licenceTitle", "[I", true)
  | 16 => ("RightsLimitModel", "licenceKind", "[I", true)
  | 17 => ("RightsLimitModel", "licenceLeft", "[I", true)
  | 18 => ("RightsLimitModel", "licenceFrom", "[I", true)
  | 19 => ("RightsLimitModel", "licenceTo", "[I", true)
  | 20 => ("RightsLimitModel", "requests", "I", false)
  | 21 => ("RightsLimitModel", "person", "[I", true)
  | 22 => ("RightsLimitModel", "title", "[I", true)
  | 23 => ("RightsLimitModel", "kind", "[I", true)
  | 24 => ("RightsLimitModel", "pages", "[I", true)
  | 25 => ("RightsLimitModel", "time", "[I", true)
  | 26 => ("RightsLimitModel", "by", "[I", true)
  | 27 => ("RightsLimitModel", "byLicence", "[I", true)
  | 28 => ("RightsLimitModel", "fee", "[I", true)
  | 29 => ("RightsLimitModel", "end", "[I", true)
  | 30 => ("RightsLimitModel", "renewed", "[I", true)
  | 31 => ("RightsLimitModel", "deleted", "[I", true)
  | _ => ("RightsLimitModel", "why", "I", false)
def fy_m : Nat → FieldType := fun k => match k with
  | 0 => .int
  | 1 => .int
  | 2 => .int
  | 3 => .array .int
  | 4 => .array .boolean
  | 5 => .array .int
  | 6 => .array .int
  | 7 => .array .int
  | 8 => .array .boolean
  | 9 => .int
  | 10 => .array .int
  | 11 => .array .int
  | 12 => .array .int
  | 13 => .array .int
  | 14 => .int
  | 15 => .array .int
  | 16 => .array .int
  | 17 => .array .int
  | 18 => .array .int
  | 19 => .array .int
  | 20 => .int
  | 21 => .array .int
  | 22 => .array .int
  | 23 => .array .int
  | 24 => .array .int
  | 25 => .array .int
  | 26 => .array .int
  | 27 => .array .int
  | 28 => .array .int
  | 29 => .array .int
  | 30 => .array .int
  | 31 => .array .int
  | _ => .int
theorem fn_m : ∀ a, a < 33 → ∀ b, b < 33 → a ≠ b → (fT_m a).2.1 ≠ (fT_m b).2.1 := by decide +kernel
theorem fo_m : ∀ k, k < 33 → parseFieldDescriptor (fT_m k).2.2.1 = some (fy_m k) := by decide +kernel
theorem fi_m : ∀ w ∈ u_ws "RightsLimitModel" fT_m 33, w ∈ rl_G := by
  have h1 : ∀ w ∈ u_ws "RightsLimitModel" fT_m 33, w ∈ lw_tbl := by decide +kernel
  have h2 : (u_ws "RightsLimitModel" fT_m 33).all goodWord = true := by decide +kernel
  exact fun w hw => List.mem_filter.mpr ⟨h1 w hw, List.all_eq_true.mp h2 w hw⟩
abbrev rl_cl : List vw_C := [("RightsLimit", fT_x, 8), ("RightsLimit$Titles", fT_t, 5), ("RightsLimit$Limits", fT_l, 5), ("RightsLimit$Licences", fT_c, 6), ("RightsLimit$Requests", fT_q, 13), ("RightsLimitModel", fT_m, 33)]
theorem rl_nm4 : ((-4) : Int32).toInt = -4 := by decide
theorem rl_nm3 : ((-3) : Int32).toInt = -3 := by decide
theorem rl_nm2 : ((-2) : Int32).toInt = -2 := by decide
theorem rl_nm1 : ((-1) : Int32).toInt = -1 := by decide
theorem rl_n0 : (0 : Int32).toInt = 0 := by decide
theorem rl_n1 : (1 : Int32).toInt = 1 := by decide
theorem rl_n2 : (2 : Int32).toInt = 2 := by decide
theorem rl_n3 : (3 : Int32).toInt = 3 := by decide
theorem rl_n4 : (4 : Int32).toInt = 4 := by decide
theorem rl_n5 : (5 : Int32).toInt = 5 := by decide
theorem rl_n9 : (9 : Int32).toInt = 9 := by decide
theorem rl_n10 : (10 : Int32).toInt = 10 := by decide
theorem rl_n20 : (20 : Int32).toInt = 20 := by decide
theorem rl_n50 : (50 : Int32).toInt = 50 := by decide
theorem rl_n99 : (99 : Int32).toInt = 99 := by decide
theorem rl_n100 : (100 : Int32).toInt = 100 := by decide
theorem rl_n300 : (300 : Int32).toInt = 300 := by decide
theorem rl_n1000 : (1000 : Int32).toInt = 1000 := by decide
theorem rl_n5000 : (5000 : Int32).toInt = 5000 := by decide
theorem rl_n10000 : (10000 : Int32).toInt = 10000 := by decide
theorem rl_n1000000000 : (1000000000 : Int32).toInt = 1000000000 := by decide
