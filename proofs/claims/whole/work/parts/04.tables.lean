/-! the classes, their fields; the shapes of cells (by program) -/
def T0 : u_T := fun k => ([("TypedBlood", "units", "[LTypedBlood$Unit;", true), ("TypedBlood", "patients", "[LTypedBlood$Patient;", true), ("TypedBlood", "ranking", "LTypedBlood$Ranking;", true), ("TypedBlood", "unitCount", "I", false), ("TypedBlood", "patientCount", "I", false), ("TypedBlood", "now", "I", false), ("TypedBlood", "quarantined", "I", false), ("TypedBlood", "issuesSoFar", "I", false)] : List (String × String × String × Bool)).getD k ("", "", "", false)
def T1 : u_T := fun k => ([("TypedBlood$Unit", "kind", "I", true), ("TypedBlood$Unit", "group", "I", true), ("TypedBlood$Unit", "rhesus", "I", true), ("TypedBlood$Unit", "donors", "I", true), ("TypedBlood$Unit", "expiry", "I", true), ("TypedBlood$Unit", "present", "I", false), ("TypedBlood$Unit", "absent", "I", false), ("TypedBlood$Unit", "marks", "I", false), ("TypedBlood$Unit", "state", "I", false), ("TypedBlood$Unit", "holder", "I", false), ("TypedBlood$Unit", "reservedUntil", "I", false), ("TypedBlood$Unit", "issuedAt", "I", false), ("TypedBlood$Unit", "issueOrder", "I", false), ("TypedBlood$Unit", "doctor", "I", false), ("TypedBlood$Unit", "discardReason", "I", false)] : List (String × String × String × Bool)).getD k ("", "", "", false)
def T2 : u_T := fun k => ([("TypedBlood$Patient", "status", "I", false), ("TypedBlood$Patient", "group", "I", false), ("TypedBlood$Patient", "rhesus", "I", false), ("TypedBlood$Patient", "sampledAt", "I", false), ("TypedBlood$Patient", "antibodies", "I", false), ("TypedBlood$Patient", "needs", "I", false), ("TypedBlood$Patient", "negativeAt", "[I", true)] : List (String × String × String × Bool)).getD k ("", "", "", false)
def T3 : u_T := fun k => ([("TypedBlood$Ranking", "numbers", "[I", true), ("TypedBlood$Ranking", "keys", "[I", true), ("TypedBlood$Ranking", "size", "I", false)] : List (String × String × String × Bool)).getD k ("", "", "", false)
def T4 : u_T := fun k => ([("TypedBloodModel", "thrown", "I", false), ("TypedBloodModel", "now", "I", false), ("TypedBloodModel", "units", "I", false), ("TypedBloodModel", "kinds", "[I", true), ("TypedBloodModel", "groups", "[I", true), ("TypedBloodModel", "rhesus", "[I", true), ("TypedBloodModel", "present", "[I", true), ("TypedBloodModel", "absent", "[I", true), ("TypedBloodModel", "marks", "[I", true), ("TypedBloodModel", "expiries", "[I", true), ("TypedBloodModel", "donors", "[I", true), ("TypedBloodModel", "states", "[I", true), ("TypedBloodModel", "whose", "[I", true), ("TypedBloodModel", "since", "[I", true), ("TypedBloodModel", "issues", "[I", true), ("TypedBloodModel", "doctors", "[I", true), ("TypedBloodModel", "reasons", "[I", true), ("TypedBloodModel", "latestIssue", "I", false), ("TypedBloodModel", "quarantined", "I", false), ("TypedBloodModel", "patients", "I", false), ("TypedBloodModel", "told", "[I", true), ("TypedBloodModel", "toldAt", "[I", true), ("TypedBloodModel", "status", "[I", true), ("TypedBloodModel", "antibodies", "[I", true), ("TypedBloodModel", "wants", "[I", true), ("TypedBloodModel", "matched", "[I", true)] : List (String × String × String × Bool)).getD k ("", "", "", false)
def vC : List vw_C := [("TypedBlood", T0, 8), ("TypedBlood$Unit", T1, 15), ("TypedBlood$Patient", T2, 7), ("TypedBlood$Ranking", T3, 3), ("TypedBloodModel", T4, 26)]
def nfl (ci : Nat) : Nat := cond (Nat.beq ci 0) 8 ( cond (Nat.beq ci 1) 15 ( cond (Nat.beq ci 2) 7 ( cond (Nat.beq ci 3) 3 (26))))
def isI (ci f : Nat) : Bool := cond (Nat.beq ci 0) (Nat.ble 3 f) (cond (Nat.beq ci 1) true (cond (Nat.beq ci 2) (Nat.blt f 6) (cond (Nat.beq ci 3) (Nat.beq f 2) (Nat.ble f 2 || (Nat.ble 17 f && Nat.ble f 19)))))
def fty (ci f : Nat) : FieldType := cond (isI ci f) .int (cond (Nat.beq ci 0) (cond (Nat.beq f 0) (.array (.object "TypedBlood$Unit")) (cond (Nat.beq f 1) (.array (.object "TypedBlood$Patient")) (.object "TypedBlood$Ranking"))) (.array .int))
/-- what a cell is: (0, number of its type), (1, length) ints, (2, length) longs, (3, length) Units, (4, length) Patients -/
def shp0 (i : Nat) : Nat × Nat := cond (Nat.beq i 0) (0, 0) (cond (Nat.beq i 1) (3, 48) (cond (Nat.beq i 2) (4, 10) (cond (Nat.beq i 3) (0, 3) (cond (Nat.blt i 6) (1, 48) (cond (Nat.beq i 6) (0, 4) (cond (Nat.blt i 21) (1, 48) (cond (Nat.blt i 26) (1, 10) (cond (Nat.beq i 26) (1, 480) (2, 1)))))))))
def shp (k i : Nat) : Nat × Nat := cond (Nat.beq k 0) (shp0 i) (cond (Nat.beq k 1) (0, 1) (cond (Nat.beq k 2) (0, 2) (1, 48)))
theorem T0_ty : ∀ f, f < 8 → parseFieldDescriptor (T0 f).2.2.1 = some (fty 0 f) := by decide +kernel
theorem T0_nm : ∀ a, a < 8 → ∀ b, b < 8 → a ≠ b → (T0 a).2.1 ≠ (T0 b).2.1 := by decide +kernel
theorem T0_dc : ∀ f, f < 8 → (T0 f).1 = "TypedBlood" := by decide +kernel
theorem T1_ty : ∀ f, f < 15 → parseFieldDescriptor (T1 f).2.2.1 = some (fty 1 f) := by decide +kernel
theorem T1_nm : ∀ a, a < 15 → ∀ b, b < 15 → a ≠ b → (T1 a).2.1 ≠ (T1 b).2.1 := by decide +kernel
theorem T1_dc : ∀ f, f < 15 → (T1 f).1 = "TypedBlood$Unit" := by decide +kernel
theorem T2_ty : ∀ f, f < 7 → parseFieldDescriptor (T2 f).2.2.1 = some (fty 2 f) := by decide +kernel
theorem T2_nm : ∀ a, a < 7 → ∀ b, b < 7 → a ≠ b → (T2 a).2.1 ≠ (T2 b).2.1 := by decide +kernel
theorem T2_dc : ∀ f, f < 7 → (T2 f).1 = "TypedBlood$Patient" := by decide +kernel
theorem T3_ty : ∀ f, f < 3 → parseFieldDescriptor (T3 f).2.2.1 = some (fty 3 f) := by decide +kernel
theorem T3_nm : ∀ a, a < 3 → ∀ b, b < 3 → a ≠ b → (T3 a).2.1 ≠ (T3 b).2.1 := by decide +kernel
theorem T3_dc : ∀ f, f < 3 → (T3 f).1 = "TypedBlood$Ranking" := by decide +kernel
theorem T4_ty : ∀ f, f < 26 → parseFieldDescriptor (T4 f).2.2.1 = some (fty 4 f) := by decide +kernel
theorem T4_nm : ∀ a, a < 26 → ∀ b, b < 26 → a ≠ b → (T4 a).2.1 ≠ (T4 b).2.1 := by decide +kernel
theorem T4_dc : ∀ f, f < 26 → (T4 f).1 = "TypedBloodModel" := by decide +kernel
/-- words that stay under warmer tables -/
def gw (w : Cond) : Bool := goodWord w || (match w with
  | .castable _ _ => true
  | .declares _ => true
  | .arrayOver (.object _) => true
  | _ => false)
def wd (w : Cond) : Prop := w ∈ lw_tbl ∧ gw w = true
theorem gw_at {w : Cond} (hg : gw w = true) {s U : State} {A A' : Array Value} (hW : s.WarmedH U.vm) (h : w.before A s = true) : w.before A' U = true := by
  by_cases hq : goodWord w = true
  · exact word_at hW (good_of_word hq) h
  · have hn : goodWord w = false := by simpa using hq
    unfold gw at hg
    rw [hn] at hg
    cases w with
    | castable C T => exact va_Nw.use rfl (va_Nw.warmC hW (va_Nw.of rfl h))
    | declares x => exact va_Nw.use rfl (va_Nw.warmD hW (va_Nw.of rfl h))
    | arrayOver ty =>
      cases ty with
      | object C => exact va_AO.use (va_AO.moved hW.alike (va_AO.of h))
      | _ => exact Bool.noConfusion hg
    | _ => exact Bool.noConfusion hg
def xN (x : Nat) : String := cond (Nat.beq x 0) "java/lang/IllegalArgumentException" (cond (Nat.beq x 1) "java/lang/IllegalStateException" (cond (Nat.beq x 2) "java/util/NoSuchElementException" (cond (Nat.beq x 3) "java/lang/UnsupportedOperationException" "java/lang/IndexOutOfBoundsException")))
def xI (x : Nat) : Nat := cond (Nat.beq x 0) 13 (cond (Nat.beq x 1) 19 (cond (Nat.beq x 2) 25 (cond (Nat.beq x 3) 31 85)))
theorem ev_five {ci : Nat} (q : ci < 5) : ci = 0 ∨ ci = 1 ∨ ci = 2 ∨ ci = 3 ∨ ci = 4 := by omega
/-! words of the tables, by their places -/
theorem ly_0_0 : u_lay "TypedBlood" T0 0 ∈ lw_tbl.filter goodWord := List.mem_filter.mpr ⟨List.mem_of_getElem? (i := 85) (by decide +kernel), by decide +kernel⟩
theorem ly_0_1 : u_lay "TypedBlood" T0 1 ∈ lw_tbl.filter goodWord := List.mem_filter.mpr ⟨List.mem_of_getElem? (i := 87) (by decide +kernel), by decide +kernel⟩
theorem ly_0_2 : u_lay "TypedBlood" T0 2 ∈ lw_tbl.filter goodWord := List.mem_filter.mpr ⟨List.mem_of_getElem? (i := 89) (by decide +kernel), by decide +kernel⟩
theorem ly_0_3 : u_lay "TypedBlood" T0 3 ∈ lw_tbl.filter goodWord := List.mem_filter.mpr ⟨List.mem_of_getElem? (i := 91) (by decide +kernel), by decide +kernel⟩
theorem ly_0_4 : u_lay "TypedBlood" T0 4 ∈ lw_tbl.filter goodWord := List.mem_filter.mpr ⟨List.mem_of_getElem? (i := 93) (by decide +kernel), by decide +kernel⟩
theorem ly_0_5 : u_lay "TypedBlood" T0 5 ∈ lw_tbl.filter goodWord := List.mem_filter.mpr ⟨List.mem_of_getElem? (i := 95) (by decide +kernel), by decide +kernel⟩
theorem ly_0_6 : u_lay "TypedBlood" T0 6 ∈ lw_tbl.filter goodWord := List.mem_filter.mpr ⟨List.mem_of_getElem? (i := 97) (by decide +kernel), by decide +kernel⟩
theorem ly_0_7 : u_lay "TypedBlood" T0 7 ∈ lw_tbl.filter goodWord := List.mem_filter.mpr ⟨List.mem_of_getElem? (i := 99) (by decide +kernel), by decide +kernel⟩
theorem T0_in : ∀ f, f < 8 → u_lay "TypedBlood" T0 f ∈ lw_tbl.filter goodWord := by
  intro f hf
  have e : f = 0 ∨ f = 1 ∨ f = 2 ∨ f = 3 ∨ f = 4 ∨ f = 5 ∨ f = 6 ∨ f = 7 := by omega
  rcases e with rfl | rfl | rfl | rfl | rfl | rfl | rfl | rfl
  · exact ly_0_0
  · exact ly_0_1
  · exact ly_0_2
  · exact ly_0_3
  · exact ly_0_4
  · exact ly_0_5
  · exact ly_0_6
  · exact ly_0_7
theorem ly_1_0 : u_lay "TypedBlood$Unit" T1 0 ∈ lw_tbl.filter goodWord := List.mem_filter.mpr ⟨List.mem_of_getElem? (i := 265) (by decide +kernel), by decide +kernel⟩
theorem ly_1_1 : u_lay "TypedBlood$Unit" T1 1 ∈ lw_tbl.filter goodWord := List.mem_filter.mpr ⟨List.mem_of_getElem? (i := 267) (by decide +kernel), by decide +kernel⟩
theorem ly_1_2 : u_lay "TypedBlood$Unit" T1 2 ∈ lw_tbl.filter goodWord := List.mem_filter.mpr ⟨List.mem_of_getElem? (i := 269) (by decide +kernel), by decide +kernel⟩
theorem ly_1_3 : u_lay "TypedBlood$Unit" T1 3 ∈ lw_tbl.filter goodWord := List.mem_filter.mpr ⟨List.mem_of_getElem? (i := 271) (by decide +kernel), by decide +kernel⟩
theorem ly_1_4 : u_lay "TypedBlood$Unit" T1 4 ∈ lw_tbl.filter goodWord := List.mem_filter.mpr ⟨List.mem_of_getElem? (i := 273) (by decide +kernel), by decide +kernel⟩
theorem ly_1_5 : u_lay "TypedBlood$Unit" T1 5 ∈ lw_tbl.filter goodWord := List.mem_filter.mpr ⟨List.mem_of_getElem? (i := 275) (by decide +kernel), by decide +kernel⟩
theorem ly_1_6 : u_lay "TypedBlood$Unit" T1 6 ∈ lw_tbl.filter goodWord := List.mem_filter.mpr ⟨List.mem_of_getElem? (i := 277) (by decide +kernel), by decide +kernel⟩
theorem ly_1_7 : u_lay "TypedBlood$Unit" T1 7 ∈ lw_tbl.filter goodWord := List.mem_filter.mpr ⟨List.mem_of_getElem? (i := 279) (by decide +kernel), by decide +kernel⟩
theorem ly_1_8 : u_lay "TypedBlood$Unit" T1 8 ∈ lw_tbl.filter goodWord := List.mem_filter.mpr ⟨List.mem_of_getElem? (i := 281) (by decide +kernel), by decide +kernel⟩
theorem ly_1_9 : u_lay "TypedBlood$Unit" T1 9 ∈ lw_tbl.filter goodWord := List.mem_filter.mpr ⟨List.mem_of_getElem? (i := 283) (by decide +kernel), by decide +kernel⟩
theorem ly_1_10 : u_lay "TypedBlood$Unit" T1 10 ∈ lw_tbl.filter goodWord := List.mem_filter.mpr ⟨List.mem_of_getElem? (i := 285) (by decide +kernel), by decide +kernel⟩
theorem ly_1_11 : u_lay "TypedBlood$Unit" T1 11 ∈ lw_tbl.filter goodWord := List.mem_filter.mpr ⟨List.mem_of_getElem? (i := 287) (by decide +kernel), by decide +kernel⟩
theorem ly_1_12 : u_lay "TypedBlood$Unit" T1 12 ∈ lw_tbl.filter goodWord := List.mem_filter.mpr ⟨List.mem_of_getElem? (i := 289) (by decide +kernel), by decide +kernel⟩
theorem ly_1_13 : u_lay "TypedBlood$Unit" T1 13 ∈ lw_tbl.filter goodWord := List.mem_filter.mpr ⟨List.mem_of_getElem? (i := 291) (by decide +kernel), by decide +kernel⟩
theorem ly_1_14 : u_lay "TypedBlood$Unit" T1 14 ∈ lw_tbl.filter goodWord := List.mem_filter.mpr ⟨List.mem_of_getElem? (i := 293) (by decide +kernel), by decide +kernel⟩
theorem T1_in : ∀ f, f < 15 → u_lay "TypedBlood$Unit" T1 f ∈ lw_tbl.filter goodWord := by
  intro f hf
  have e : f = 0 ∨ f = 1 ∨ f = 2 ∨ f = 3 ∨ f = 4 ∨ f = 5 ∨ f = 6 ∨ f = 7 ∨ f = 8 ∨ f = 9 ∨ f = 10 ∨ f = 11 ∨ f = 12 ∨ f = 13 ∨ f = 14 := by omega
  rcases e with rfl | rfl | rfl | rfl | rfl | rfl | rfl | rfl | rfl | rfl | rfl | rfl | rfl | rfl | rfl
  · exact ly_1_0
  · exact ly_1_1
  · exact ly_1_2
  · exact ly_1_3
  · exact ly_1_4
  · exact ly_1_5
  · exact ly_1_6
  · exact ly_1_7
  · exact ly_1_8
  · exact ly_1_9
  · exact ly_1_10
  · exact ly_1_11
  · exact ly_1_12
  · exact ly_1_13
  · exact ly_1_14
theorem ly_2_0 : u_lay "TypedBlood$Patient" T2 0 ∈ lw_tbl.filter goodWord := List.mem_filter.mpr ⟨List.mem_of_getElem? (i := 433) (by decide +kernel), by decide +kernel⟩
theorem ly_2_1 : u_lay "TypedBlood$Patient" T2 1 ∈ lw_tbl.filter goodWord := List.mem_filter.mpr ⟨List.mem_of_getElem? (i := 435) (by decide +kernel), by decide +kernel⟩
theorem ly_2_2 : u_lay "TypedBlood$Patient" T2 2 ∈ lw_tbl.filter goodWord := List.mem_filter.mpr ⟨List.mem_of_getElem? (i := 437) (by decide +kernel), by decide +kernel⟩
theorem ly_2_3 : u_lay "TypedBlood$Patient" T2 3 ∈ lw_tbl.filter goodWord := List.mem_filter.mpr ⟨List.mem_of_getElem? (i := 439) (by decide +kernel), by decide +kernel⟩
theorem ly_2_4 : u_lay "TypedBlood$Patient" T2 4 ∈ lw_tbl.filter goodWord := List.mem_filter.mpr ⟨List.mem_of_getElem? (i := 441) (by decide +kernel), by decide +kernel⟩
theorem ly_2_5 : u_lay "TypedBlood$Patient" T2 5 ∈ lw_tbl.filter goodWord := List.mem_filter.mpr ⟨List.mem_of_getElem? (i := 443) (by decide +kernel), by decide +kernel⟩
theorem ly_2_6 : u_lay "TypedBlood$Patient" T2 6 ∈ lw_tbl.filter goodWord := List.mem_filter.mpr ⟨List.mem_of_getElem? (i := 445) (by decide +kernel), by decide +kernel⟩
theorem T2_in : ∀ f, f < 7 → u_lay "TypedBlood$Patient" T2 f ∈ lw_tbl.filter goodWord := by
  intro f hf
  have e : f = 0 ∨ f = 1 ∨ f = 2 ∨ f = 3 ∨ f = 4 ∨ f = 5 ∨ f = 6 := by omega
  rcases e with rfl | rfl | rfl | rfl | rfl | rfl | rfl
  · exact ly_2_0
  · exact ly_2_1
  · exact ly_2_2
  · exact ly_2_3
  · exact ly_2_4
  · exact ly_2_5
  · exact ly_2_6
theorem ly_3_0 : u_lay "TypedBlood$Ranking" T3 0 ∈ lw_tbl.filter goodWord := List.mem_filter.mpr ⟨List.mem_of_getElem? (i := 69) (by decide +kernel), by decide +kernel⟩
theorem ly_3_1 : u_lay "TypedBlood$Ranking" T3 1 ∈ lw_tbl.filter goodWord := List.mem_filter.mpr ⟨List.mem_of_getElem? (i := 71) (by decide +kernel), by decide +kernel⟩
theorem ly_3_2 : u_lay "TypedBlood$Ranking" T3 2 ∈ lw_tbl.filter goodWord := List.mem_filter.mpr ⟨List.mem_of_getElem? (i := 73) (by decide +kernel), by decide +kernel⟩
theorem T3_in : ∀ f, f < 3 → u_lay "TypedBlood$Ranking" T3 f ∈ lw_tbl.filter goodWord := by
  intro f hf
  have e : f = 0 ∨ f = 1 ∨ f = 2 := by omega
  rcases e with rfl | rfl | rfl
  · exact ly_3_0
  · exact ly_3_1
  · exact ly_3_2
theorem ly_4_0 : u_lay "TypedBloodModel" T4 0 ∈ lw_tbl.filter goodWord := List.mem_filter.mpr ⟨List.mem_of_getElem? (i := 782) (by decide +kernel), by decide +kernel⟩
theorem ly_4_1 : u_lay "TypedBloodModel" T4 1 ∈ lw_tbl.filter goodWord := List.mem_filter.mpr ⟨List.mem_of_getElem? (i := 784) (by decide +kernel), by decide +kernel⟩
theorem ly_4_2 : u_lay "TypedBloodModel" T4 2 ∈ lw_tbl.filter goodWord := List.mem_filter.mpr ⟨List.mem_of_getElem? (i := 786) (by decide +kernel), by decide +kernel⟩
theorem ly_4_3 : u_lay "TypedBloodModel" T4 3 ∈ lw_tbl.filter goodWord := List.mem_filter.mpr ⟨List.mem_of_getElem? (i := 788) (by decide +kernel), by decide +kernel⟩
theorem ly_4_4 : u_lay "TypedBloodModel" T4 4 ∈ lw_tbl.filter goodWord := List.mem_filter.mpr ⟨List.mem_of_getElem? (i := 790) (by decide +kernel), by decide +kernel⟩
theorem ly_4_5 : u_lay "TypedBloodModel" T4 5 ∈ lw_tbl.filter goodWord := List.mem_filter.mpr ⟨List.mem_of_getElem? (i := 792) (by decide +kernel), by decide +kernel⟩
theorem ly_4_6 : u_lay "TypedBloodModel" T4 6 ∈ lw_tbl.filter goodWord := List.mem_filter.mpr ⟨List.mem_of_getElem? (i := 794) (by decide +kernel), by decide +kernel⟩
theorem ly_4_7 : u_lay "TypedBloodModel" T4 7 ∈ lw_tbl.filter goodWord := List.mem_filter.mpr ⟨List.mem_of_getElem? (i := 796) (by decide +kernel), by decide +kernel⟩
theorem ly_4_8 : u_lay "TypedBloodModel" T4 8 ∈ lw_tbl.filter goodWord := List.mem_filter.mpr ⟨List.mem_of_getElem? (i := 798) (by decide +kernel), by decide +kernel⟩
theorem ly_4_9 : u_lay "TypedBloodModel" T4 9 ∈ lw_tbl.filter goodWord := List.mem_filter.mpr ⟨List.mem_of_getElem? (i := 800) (by decide +kernel), by decide +kernel⟩
theorem ly_4_10 : u_lay "TypedBloodModel" T4 10 ∈ lw_tbl.filter goodWord := List.mem_filter.mpr ⟨List.mem_of_getElem? (i := 802) (by decide +kernel), by decide +kernel⟩
theorem ly_4_11 : u_lay "TypedBloodModel" T4 11 ∈ lw_tbl.filter goodWord := List.mem_filter.mpr ⟨List.mem_of_getElem? (i := 804) (by decide +kernel), by decide +kernel⟩
theorem ly_4_12 : u_lay "TypedBloodModel" T4 12 ∈ lw_tbl.filter goodWord := List.mem_filter.mpr ⟨List.mem_of_getElem? (i := 806) (by decide +kernel), by decide +kernel⟩
theorem ly_4_13 : u_lay "TypedBloodModel" T4 13 ∈ lw_tbl.filter goodWord := List.mem_filter.mpr ⟨List.mem_of_getElem? (i := 808) (by decide +kernel), by decide +kernel⟩
theorem ly_4_14 : u_lay "TypedBloodModel" T4 14 ∈ lw_tbl.filter goodWord := List.mem_filter.mpr ⟨List.mem_of_getElem? (i := 810) (by decide +kernel), by decide +kernel⟩
theorem ly_4_15 : u_lay "TypedBloodModel" T4 15 ∈ lw_tbl.filter goodWord := List.mem_filter.mpr ⟨List.mem_of_getElem? (i := 812) (by decide +kernel), by decide +kernel⟩
theorem ly_4_16 : u_lay "TypedBloodModel" T4 16 ∈ lw_tbl.filter goodWord := List.mem_filter.mpr ⟨List.mem_of_getElem? (i := 814) (by decide +kernel), by decide +kernel⟩
theorem ly_4_17 : u_lay "TypedBloodModel" T4 17 ∈ lw_tbl.filter goodWord := List.mem_filter.mpr ⟨List.mem_of_getElem? (i := 816) (by decide +kernel), by decide +kernel⟩
theorem ly_4_18 : u_lay "TypedBloodModel" T4 18 ∈ lw_tbl.filter goodWord := List.mem_filter.mpr ⟨List.mem_of_getElem? (i := 818) (by decide +kernel), by decide +kernel⟩
theorem ly_4_19 : u_lay "TypedBloodModel" T4 19 ∈ lw_tbl.filter goodWord := List.mem_filter.mpr ⟨List.mem_of_getElem? (i := 820) (by decide +kernel), by decide +kernel⟩
theorem ly_4_20 : u_lay "TypedBloodModel" T4 20 ∈ lw_tbl.filter goodWord := List.mem_filter.mpr ⟨List.mem_of_getElem? (i := 822) (by decide +kernel), by decide +kernel⟩
theorem ly_4_21 : u_lay "TypedBloodModel" T4 21 ∈ lw_tbl.filter goodWord := List.mem_filter.mpr ⟨List.mem_of_getElem? (i := 824) (by decide +kernel), by decide +kernel⟩
theorem ly_4_22 : u_lay "TypedBloodModel" T4 22 ∈ lw_tbl.filter goodWord := List.mem_filter.mpr ⟨List.mem_of_getElem? (i := 826) (by decide +kernel), by decide +kernel⟩
theorem ly_4_23 : u_lay "TypedBloodModel" T4 23 ∈ lw_tbl.filter goodWord := List.mem_filter.mpr ⟨List.mem_of_getElem? (i := 828) (by decide +kernel), by decide +kernel⟩
theorem ly_4_24 : u_lay "TypedBloodModel" T4 24 ∈ lw_tbl.filter goodWord := List.mem_filter.mpr ⟨List.mem_of_getElem? (i := 830) (by decide +kernel), by decide +kernel⟩
theorem ly_4_25 : u_lay "TypedBloodModel" T4 25 ∈ lw_tbl.filter goodWord := List.mem_filter.mpr ⟨List.mem_of_getElem? (i := 832) (by decide +kernel), by decide +kernel⟩
theorem T4_in : ∀ f, f < 26 → u_lay "TypedBloodModel" T4 f ∈ lw_tbl.filter goodWord := by
  intro f hf
  have e : f = 0 ∨ f = 1 ∨ f = 2 ∨ f = 3 ∨ f = 4 ∨ f = 5 ∨ f = 6 ∨ f = 7 ∨ f = 8 ∨ f = 9 ∨ f = 10 ∨ f = 11 ∨ f = 12 ∨ f = 13 ∨ f = 14 ∨ f = 15 ∨ f = 16 ∨ f = 17 ∨ f = 18 ∨ f = 19 ∨ f = 20 ∨ f = 21 ∨ f = 22 ∨ f = 23 ∨ f = 24 ∨ f = 25 := by omega
  rcases e with rfl | rfl | rfl | rfl | rfl | rfl | rfl | rfl | rfl | rfl | rfl | rfl | rfl | rfl | rfl | rfl | rfl | rfl | rfl | rfl | rfl | rfl | rfl | rfl | rfl | rfl
  · exact ly_4_0
  · exact ly_4_1
  · exact ly_4_2
  · exact ly_4_3
  · exact ly_4_4
  · exact ly_4_5
  · exact ly_4_6
  · exact ly_4_7
  · exact ly_4_8
  · exact ly_4_9
  · exact ly_4_10
  · exact ly_4_11
  · exact ly_4_12
  · exact ly_4_13
  · exact ly_4_14
  · exact ly_4_15
  · exact ly_4_16
  · exact ly_4_17
  · exact ly_4_18
  · exact ly_4_19
  · exact ly_4_20
  · exact ly_4_21
  · exact ly_4_22
  · exact ly_4_23
  · exact ly_4_24
  · exact ly_4_25
