section
/-- a method that its own code alone calls, of a type that the tables say can be made, by its rows of tables_1 -/
def lw_okq (q : MethodName × Nat) : Prop := (q.1.cls ≠ "java/lang/invoke/MethodHandle" ∧ q.1.cls ≠ "java/lang/invoke/VarHandle") ∧ Cond.instantiable q.1.cls q.2 ∈ tables_1 ∧ Cond.privateMethod q.1 ∈ tables_1 ∧ Cond.instanceMethod q.1 ∈ tables_1
theorem lw_p0 : lw_okq (⟨"java/lang/Throwable", "fillInStackTrace", "(I)Ljava/lang/Throwable;"⟩, 6) := ⟨⟨by decide +kernel, by decide +kernel⟩, List.mem_of_getElem? (i := 121) (by decide +kernel), List.mem_of_getElem? (i := 119) (by decide +kernel), List.mem_of_getElem? (i := 120) (by decide +kernel)⟩
theorem lw_p1 : lw_okq (⟨"TypedBlood", "hasRoomFor", "(I)Z"⟩, 8) := ⟨⟨by decide +kernel, by decide +kernel⟩, List.mem_of_getElem? (i := 18) (by decide +kernel), List.mem_of_getElem? (i := 176) (by decide +kernel), List.mem_of_getElem? (i := 177) (by decide +kernel)⟩
theorem lw_p2 : lw_okq (⟨"TypedBlood", "keep", "(LTypedBlood$Unit;)I"⟩, 8) := ⟨⟨by decide +kernel, by decide +kernel⟩, List.mem_of_getElem? (i := 18) (by decide +kernel), List.mem_of_getElem? (i := 266) (by decide +kernel), List.mem_of_getElem? (i := 267) (by decide +kernel)⟩
theorem lw_p3 : lw_okq (⟨"TypedBlood", "unitAt", "(I)LTypedBlood$Unit;"⟩, 8) := ⟨⟨by decide +kernel, by decide +kernel⟩, List.mem_of_getElem? (i := 18) (by decide +kernel), List.mem_of_getElem? (i := 278) (by decide +kernel), List.mem_of_getElem? (i := 279) (by decide +kernel)⟩
theorem lw_p4 : lw_okq (⟨"TypedBlood", "isReady", "(LTypedBlood$Unit;)Z"⟩, 8) := ⟨⟨by decide +kernel, by decide +kernel⟩, List.mem_of_getElem? (i := 18) (by decide +kernel), List.mem_of_getElem? (i := 313) (by decide +kernel), List.mem_of_getElem? (i := 314) (by decide +kernel)⟩
theorem lw_p5 : lw_okq (⟨"TypedBlood", "isUsable", "(LTypedBlood$Unit;)Z"⟩, 8) := ⟨⟨by decide +kernel, by decide +kernel⟩, List.mem_of_getElem? (i := 18) (by decide +kernel), List.mem_of_getElem? (i := 317) (by decide +kernel), List.mem_of_getElem? (i := 318) (by decide +kernel)⟩
theorem lw_p6 : lw_okq (⟨"TypedBlood", "keepSplitProducts", "(LTypedBlood$Unit;)I"⟩, 8) := ⟨⟨by decide +kernel, by decide +kernel⟩, List.mem_of_getElem? (i := 18) (by decide +kernel), List.mem_of_getElem? (i := 349) (by decide +kernel), List.mem_of_getElem? (i := 350) (by decide +kernel)⟩
theorem lw_p7 : lw_okq (⟨"TypedBlood", "keepProduct", "(LTypedBlood$Unit;III)I"⟩, 8) := ⟨⟨by decide +kernel, by decide +kernel⟩, List.mem_of_getElem? (i := 18) (by decide +kernel), List.mem_of_getElem? (i := 353) (by decide +kernel), List.mem_of_getElem? (i := 354) (by decide +kernel)⟩
theorem lw_p8 : lw_okq (⟨"TypedBlood", "keepPooled", "(LTypedBlood$Unit;LTypedBlood$Unit;)I"⟩, 8) := ⟨⟨by decide +kernel, by decide +kernel⟩, List.mem_of_getElem? (i := 18) (by decide +kernel), List.mem_of_getElem? (i := 374) (by decide +kernel), List.mem_of_getElem? (i := 375) (by decide +kernel)⟩
theorem lw_p9 : lw_okq (⟨"TypedBlood", "patientAt", "(I)LTypedBlood$Patient;"⟩, 8) := ⟨⟨by decide +kernel, by decide +kernel⟩, List.mem_of_getElem? (i := 18) (by decide +kernel), List.mem_of_getElem? (i := 425) (by decide +kernel), List.mem_of_getElem? (i := 426) (by decide +kernel)⟩
theorem lw_p10 : lw_okq (⟨"TypedBlood", "isCleared", "(LTypedBlood$Patient;LTypedBlood$Unit;I)Z"⟩, 8) := ⟨⟨by decide +kernel, by decide +kernel⟩, List.mem_of_getElem? (i := 18) (by decide +kernel), List.mem_of_getElem? (i := 495) (by decide +kernel), List.mem_of_getElem? (i := 496) (by decide +kernel)⟩
theorem lw_p11 : lw_okq (⟨"TypedBlood", "mayLeaveFor", "(ILTypedBlood$Unit;)Z"⟩, 8) := ⟨⟨by decide +kernel, by decide +kernel⟩, List.mem_of_getElem? (i := 18) (by decide +kernel), List.mem_of_getElem? (i := 538) (by decide +kernel), List.mem_of_getElem? (i := 539) (by decide +kernel)⟩
theorem lw_p12 : lw_okq (⟨"TypedBlood", "handOver", "(LTypedBlood$Unit;II)I"⟩, 8) := ⟨⟨by decide +kernel, by decide +kernel⟩, List.mem_of_getElem? (i := 18) (by decide +kernel), List.mem_of_getElem? (i := 547) (by decide +kernel), List.mem_of_getElem? (i := 548) (by decide +kernel)⟩
theorem lw_p13 : lw_okq (⟨"TypedBlood", "firstIssue", "(II)I"⟩, 8) := ⟨⟨by decide +kernel, by decide +kernel⟩, List.mem_of_getElem? (i := 18) (by decide +kernel), List.mem_of_getElem? (i := 701) (by decide +kernel), List.mem_of_getElem? (i := 702) (by decide +kernel)⟩
theorem lw_p14 : lw_okq (⟨"TypedBloodModel", "refused", "(ZZZZ)Z"⟩, 26) := ⟨⟨by decide +kernel, by decide +kernel⟩, List.mem_of_getElem? (i := 720) (by decide +kernel), List.mem_of_getElem? (i := 817) (by decide +kernel), List.mem_of_getElem? (i := 818) (by decide +kernel)⟩
theorem lw_p15 : lw_okq (⟨"TypedBloodModel", "add", "(IIII)I"⟩, 26) := ⟨⟨by decide +kernel, by decide +kernel⟩, List.mem_of_getElem? (i := 720) (by decide +kernel), List.mem_of_getElem? (i := 826) (by decide +kernel), List.mem_of_getElem? (i := 827) (by decide +kernel)⟩
def lw_privs_1 : List (MethodName × Nat) := [(⟨"java/lang/Throwable", "fillInStackTrace", "(I)Ljava/lang/Throwable;"⟩, 6), (⟨"TypedBlood", "hasRoomFor", "(I)Z"⟩, 8), (⟨"TypedBlood", "keep", "(LTypedBlood$Unit;)I"⟩, 8), (⟨"TypedBlood", "unitAt", "(I)LTypedBlood$Unit;"⟩, 8), (⟨"TypedBlood", "isReady", "(LTypedBlood$Unit;)Z"⟩, 8), (⟨"TypedBlood", "isUsable", "(LTypedBlood$Unit;)Z"⟩, 8), (⟨"TypedBlood", "keepSplitProducts", "(LTypedBlood$Unit;)I"⟩, 8), (⟨"TypedBlood", "keepProduct", "(LTypedBlood$Unit;III)I"⟩, 8), (⟨"TypedBlood", "keepPooled", "(LTypedBlood$Unit;LTypedBlood$Unit;)I"⟩, 8), (⟨"TypedBlood", "patientAt", "(I)LTypedBlood$Patient;"⟩, 8), (⟨"TypedBlood", "isCleared", "(LTypedBlood$Patient;LTypedBlood$Unit;I)Z"⟩, 8), (⟨"TypedBlood", "mayLeaveFor", "(ILTypedBlood$Unit;)Z"⟩, 8), (⟨"TypedBlood", "handOver", "(LTypedBlood$Unit;II)I"⟩, 8), (⟨"TypedBlood", "firstIssue", "(II)I"⟩, 8), (⟨"TypedBloodModel", "refused", "(ZZZZ)Z"⟩, 26), (⟨"TypedBloodModel", "add", "(IIII)I"⟩, 26)]
theorem lw_r1 : ∀ q ∈ lw_privs_1, lw_okq q := List.forall_mem_cons.mpr ⟨lw_p0, List.forall_mem_cons.mpr ⟨lw_p1, List.forall_mem_cons.mpr ⟨lw_p2, List.forall_mem_cons.mpr ⟨lw_p3, List.forall_mem_cons.mpr ⟨lw_p4, List.forall_mem_cons.mpr ⟨lw_p5, List.forall_mem_cons.mpr ⟨lw_p6, List.forall_mem_cons.mpr ⟨lw_p7, List.forall_mem_cons.mpr ⟨lw_p8, List.forall_mem_cons.mpr ⟨lw_p9, List.forall_mem_cons.mpr ⟨lw_p10, List.forall_mem_cons.mpr ⟨lw_p11, List.forall_mem_cons.mpr ⟨lw_p12, List.forall_mem_cons.mpr ⟨lw_p13, List.forall_mem_cons.mpr ⟨lw_p14, List.forall_mem_cons.mpr ⟨lw_p15, fun _ h => absurd h List.not_mem_nil⟩⟩⟩⟩⟩⟩⟩⟩⟩⟩⟩⟩⟩⟩⟩⟩
theorem lw_p16 : lw_okq (⟨"TypedBloodModel", "isUnit", "(I)Z"⟩, 26) := ⟨⟨by decide +kernel, by decide +kernel⟩, List.mem_of_getElem? (i := 720) (by decide +kernel), List.mem_of_getElem? (i := 834) (by decide +kernel), List.mem_of_getElem? (i := 835) (by decide +kernel)⟩
theorem lw_p17 : lw_okq (⟨"TypedBloodModel", "stateOf", "(I)I"⟩, 26) := ⟨⟨by decide +kernel, by decide +kernel⟩, List.mem_of_getElem? (i := 720) (by decide +kernel), List.mem_of_getElem? (i := 838) (by decide +kernel), List.mem_of_getElem? (i := 839) (by decide +kernel)⟩
theorem lw_p18 : lw_okq (⟨"TypedBloodModel", "isReady", "(I)Z"⟩, 26) := ⟨⟨by decide +kernel, by decide +kernel⟩, List.mem_of_getElem? (i := 720) (by decide +kernel), List.mem_of_getElem? (i := 846) (by decide +kernel), List.mem_of_getElem? (i := 847) (by decide +kernel)⟩
theorem lw_p19 : lw_okq (⟨"TypedBloodModel", "isExpired", "(I)Z"⟩, 26) := ⟨⟨by decide +kernel, by decide +kernel⟩, List.mem_of_getElem? (i := 720) (by decide +kernel), List.mem_of_getElem? (i := 850) (by decide +kernel), List.mem_of_getElem? (i := 851) (by decide +kernel)⟩
theorem lw_p20 : lw_okq (⟨"TypedBloodModel", "isBarred", "(I)Z"⟩, 26) := ⟨⟨by decide +kernel, by decide +kernel⟩, List.mem_of_getElem? (i := 720) (by decide +kernel), List.mem_of_getElem? (i := 854) (by decide +kernel), List.mem_of_getElem? (i := 855) (by decide +kernel)⟩
theorem lw_p21 : lw_okq (⟨"TypedBloodModel", "isPatient", "(I)Z"⟩, 26) := ⟨⟨by decide +kernel, by decide +kernel⟩, List.mem_of_getElem? (i := 720) (by decide +kernel), List.mem_of_getElem? (i := 873) (by decide +kernel), List.mem_of_getElem? (i := 874) (by decide +kernel)⟩
theorem lw_p22 : lw_okq (⟨"TypedBloodModel", "reasonFor", "(II)I"⟩, 26) := ⟨⟨by decide +kernel, by decide +kernel⟩, List.mem_of_getElem? (i := 720) (by decide +kernel), List.mem_of_getElem? (i := 900) (by decide +kernel), List.mem_of_getElem? (i := 901) (by decide +kernel)⟩
theorem lw_p23 : lw_okq (⟨"TypedBloodModel", "isMatched", "(II)Z"⟩, 26) := ⟨⟨by decide +kernel, by decide +kernel⟩, List.mem_of_getElem? (i := 720) (by decide +kernel), List.mem_of_getElem? (i := 904) (by decide +kernel), List.mem_of_getElem? (i := 905) (by decide +kernel)⟩
theorem lw_p24 : lw_okq (⟨"TypedBloodModel", "mayGo", "(II)Z"⟩, 26) := ⟨⟨by decide +kernel, by decide +kernel⟩, List.mem_of_getElem? (i := 720) (by decide +kernel), List.mem_of_getElem? (i := 916) (by decide +kernel), List.mem_of_getElem? (i := 917) (by decide +kernel)⟩
theorem lw_p25 : lw_okq (⟨"TypedBloodModel", "go", "(III)I"⟩, 26) := ⟨⟨by decide +kernel, by decide +kernel⟩, List.mem_of_getElem? (i := 720) (by decide +kernel), List.mem_of_getElem? (i := 920) (by decide +kernel), List.mem_of_getElem? (i := 921) (by decide +kernel)⟩
theorem lw_p26 : lw_okq (⟨"TypedBloodModel", "field", "(II)I"⟩, 26) := ⟨⟨by decide +kernel, by decide +kernel⟩, List.mem_of_getElem? (i := 720) (by decide +kernel), List.mem_of_getElem? (i := 948) (by decide +kernel), List.mem_of_getElem? (i := 949) (by decide +kernel)⟩
theorem lw_p27 : lw_okq (⟨"TypedBloodModel", "isOffered", "(III)Z"⟩, 26) := ⟨⟨by decide +kernel, by decide +kernel⟩, List.mem_of_getElem? (i := 720) (by decide +kernel), List.mem_of_getElem? (i := 968) (by decide +kernel), List.mem_of_getElem? (i := 969) (by decide +kernel)⟩
theorem lw_p28 : lw_okq (⟨"TypedBloodModel", "isBefore", "(II)Z"⟩, 26) := ⟨⟨by decide +kernel, by decide +kernel⟩, List.mem_of_getElem? (i := 720) (by decide +kernel), List.mem_of_getElem? (i := 972) (by decide +kernel), List.mem_of_getElem? (i := 973) (by decide +kernel)⟩
theorem lw_p29 : lw_okq (⟨"TypedBloodModel", "expiresIn", "(II)Z"⟩, 26) := ⟨⟨by decide +kernel, by decide +kernel⟩, List.mem_of_getElem? (i := 720) (by decide +kernel), List.mem_of_getElem? (i := 984) (by decide +kernel), List.mem_of_getElem? (i := 985) (by decide +kernel)⟩
theorem lw_p30 : lw_okq (⟨"TypedBloodModel", "firstIssue", "(II)I"⟩, 26) := ⟨⟨by decide +kernel, by decide +kernel⟩, List.mem_of_getElem? (i := 720) (by decide +kernel), List.mem_of_getElem? (i := 992) (by decide +kernel), List.mem_of_getElem? (i := 993) (by decide +kernel)⟩
def lw_privs_2 : List (MethodName × Nat) := [(⟨"TypedBloodModel", "isUnit", "(I)Z"⟩, 26), (⟨"TypedBloodModel", "stateOf", "(I)I"⟩, 26), (⟨"TypedBloodModel", "isReady", "(I)Z"⟩, 26), (⟨"TypedBloodModel", "isExpired", "(I)Z"⟩, 26), (⟨"TypedBloodModel", "isBarred", "(I)Z"⟩, 26), (⟨"TypedBloodModel", "isPatient", "(I)Z"⟩, 26), (⟨"TypedBloodModel", "reasonFor", "(II)I"⟩, 26), (⟨"TypedBloodModel", "isMatched", "(II)Z"⟩, 26), (⟨"TypedBloodModel", "mayGo", "(II)Z"⟩, 26), (⟨"TypedBloodModel", "go", "(III)I"⟩, 26), (⟨"TypedBloodModel", "field", "(II)I"⟩, 26), (⟨"TypedBloodModel", "isOffered", "(III)Z"⟩, 26), (⟨"TypedBloodModel", "isBefore", "(II)Z"⟩, 26), (⟨"TypedBloodModel", "expiresIn", "(II)Z"⟩, 26), (⟨"TypedBloodModel", "firstIssue", "(II)I"⟩, 26)]
theorem lw_r2 : ∀ q ∈ lw_privs_2, lw_okq q := List.forall_mem_cons.mpr ⟨lw_p16, List.forall_mem_cons.mpr ⟨lw_p17, List.forall_mem_cons.mpr ⟨lw_p18, List.forall_mem_cons.mpr ⟨lw_p19, List.forall_mem_cons.mpr ⟨lw_p20, List.forall_mem_cons.mpr ⟨lw_p21, List.forall_mem_cons.mpr ⟨lw_p22, List.forall_mem_cons.mpr ⟨lw_p23, List.forall_mem_cons.mpr ⟨lw_p24, List.forall_mem_cons.mpr ⟨lw_p25, List.forall_mem_cons.mpr ⟨lw_p26, List.forall_mem_cons.mpr ⟨lw_p27, List.forall_mem_cons.mpr ⟨lw_p28, List.forall_mem_cons.mpr ⟨lw_p29, List.forall_mem_cons.mpr ⟨lw_p30, fun _ h => absurd h List.not_mem_nil⟩⟩⟩⟩⟩⟩⟩⟩⟩⟩⟩⟩⟩⟩⟩
def lw_privs : List (MethodName × Nat) := lw_privs_1 ++ (lw_privs_2)
def lw_tbl : List Cond := k2_sels lw_privs ++ tables_1
theorem lw_privs_ok : ∀ q ∈ lw_privs, lw_okq q := by
  show ∀ q ∈ lw_privs_1 ++ (lw_privs_2), lw_okq q
  exact List.forall_mem_append.mpr ⟨lw_r1, lw_r2⟩
end
section
/-! A program logic over W: 'Ev E M pc ls st h P': from pc of method M, with locals ls, stack st and the run's heap h, the machine comes to the method's end, with a result and a heap of which P holds. -/
abbrev ev_V : Type := Option (Nat × Nat) ⊕ (Int32 ⊕ Int64)
abbrev vN : ev_V := Sum.inl none
abbrev vR (k i : Nat) : ev_V := Sum.inl (some (k, i))
abbrev vI (x : Int32) : ev_V := Sum.inr (Sum.inl x)
abbrev vL (x : Int64) : ev_V := Sum.inr (Sum.inr x)
/-- ints of cells, references of cells, longs of cells (by kind, number, place); counts: fixed cells, units, patients, their arrays; all cells made -/
abbrev ev_H : Type := (Nat → Nat → Nat → Int32) × (Nat → Nat → Nat → ev_V) × (Nat → Nat → Nat → Int64) × Nat × Nat × Nat × Nat × Nat
def gI (h : ev_H) (k i j : Nat) : Int32 := h.1 k i j
def gR (h : ev_H) (k i j : Nat) : ev_V := h.2.1 k i j
def gL (h : ev_H) (k i j : Nat) : Int64 := h.2.2.1 k i j
def cF (h : ev_H) : Nat := h.2.2.2.1
def cU (h : ev_H) : Nat := h.2.2.2.2.1
def cP (h : ev_H) : Nat := h.2.2.2.2.2.1
def cN (h : ev_H) : Nat := h.2.2.2.2.2.2.1
def cZ (h : ev_H) : Nat := h.2.2.2.2.2.2.2
def u3 {α : Type} (f : Nat → Nat → Nat → α) (a b c : Nat) (v : α) : Nat → Nat → Nat → α := fun x y z => if x = a ∧ y = b ∧ z = c then v else f x y z
def z2 {α : Type} (f : Nat → Nat → Nat → α) (a b : Nat) (v : α) : Nat → Nat → Nat → α := fun x y z => if x = a ∧ y = b then v else f x y z
def sI (h : ev_H) (k i j : Nat) (v : Int32) : ev_H := (u3 h.1 k i j v, h.2)
def sR (h : ev_H) (k i j : Nat) (v : ev_V) : ev_H := (h.1, u3 h.2.1 k i j v, h.2.2)
def sL (h : ev_H) (k i j : Nat) (v : Int64) : ev_H := (h.1, h.2.1, u3 h.2.2.1 k i j v, h.2.2.2)
def cnt (h : ev_H) (k : Nat) : Nat := cond (Nat.beq k 0) (cF h) (cond (Nat.beq k 1) (cU h) (cond (Nat.beq k 2) (cP h) (cN h)))
def b1 (b : Bool) : Nat := cond b 1 0
/-- a new cell of kind k -/
def nw (h : ev_H) (k : Nat) : ev_H := (z2 h.1 k (cnt h k) 0, z2 h.2.1 k (cnt h k) vN, z2 h.2.2.1 k (cnt h k) 0, cF h + b1 (Nat.beq k 0), cU h + b1 (Nat.beq k 1), cP h + b1 (Nat.beq k 2), cN h + b1 (Nat.beq k 3), cZ h + 1)
/-- a cell more that nobody names -/
def nx (h : ev_H) : ev_H := (h.1, h.2.1, h.2.2.1, cF h, cU h, cP h, cN h, cZ h + 1)
def lvs (h : ev_H) (k i : Nat) : Prop := k = 4 ∨ (k = 5 ∧ i < 3) ∨ (k < 4 ∧ i < cnt h k)
def lvV (h : ev_H) (v : ev_V) : Prop := match v with
  | .inl (some (k, i)) => lvs h k i
  | _ => True
def lvS (h : ev_H) : List ev_V → Prop
  | [] => True
  | v :: t => lvV h v ∧ lvS h t
def cv (ad : Nat → Nat → Nat) (v : ev_V) : Value := match v with
  | .inl none => .null
  | .inl (some (k, i)) => if k = 4 then .ref i else .ref (ad k i)
  | .inr (.inl x) => .int x
  | .inr (.inr x) => .long x
theorem lvS_1 {h : ev_H} {v : ev_V} {t : List ev_V} (q : lvS h (v :: t)) : lvV h v := And.left q
theorem lvS_2 {h : ev_H} {v : ev_V} {t : List ev_V} (q : lvS h (v :: t)) : lvS h t := And.right q
theorem lvS_c {h : ev_H} {v : ev_V} {t : List ev_V} (a : lvV h v) (b : lvS h t) : lvS h (v :: t) := And.intro a b
theorem lvS_i {h : ev_H} {x : Int32} {t : List ev_V} (b : lvS h t) : lvS h (vI x :: t) := And.intro trivial b
theorem lvS_l {h : ev_H} {x : Int64} {t : List ev_V} (b : lvS h t) : lvS h (vL x :: t) := And.intro trivial b
/-- what may be read of h' as it was of h: the live names, and where they lie -/
def xt (ad : Nat → Nat → Nat) (h : ev_H) (ad' : Nat → Nat → Nat) (h' : ev_H) : Prop := ∀ k i, lvs h k i → lvs h' k i ∧ (k ≠ 4 → ad' k i = ad k i)
theorem xt.rf {ad : Nat → Nat → Nat} {h : ev_H} : xt ad h ad h := fun _ _ q => ⟨q, fun _ => rfl⟩
theorem xt.tr {ad ad' ad2 : Nat → Nat → Nat} {h h' h2 : ev_H} (a : xt ad h ad' h') (b : xt ad' h' ad2 h2) : xt ad h ad2 h2 := fun k i q => ⟨(b k i (a k i q).1).1, fun n => ((b k i (a k i q).1).2 n).trans ((a k i q).2 n)⟩
theorem xt.V {ad ad' : Nat → Nat → Nat} {h h' : ev_H} (a : xt ad h ad' h') {v : ev_V} (q : lvV h v) : lvV h' v ∧ cv ad' v = cv ad v := by
  rcases v with (_ | ⟨k, i⟩) | (x | x)
  · exact ⟨trivial, rfl⟩
  · refine ⟨(a k i q).1, ?_⟩
    show (if k = 4 then Value.ref i else Value.ref (ad' k i)) = (if k = 4 then Value.ref i else Value.ref (ad k i))
    by_cases h4 : k = 4
    · rw [if_pos h4, if_pos h4]
    · rw [if_neg h4, if_neg h4, (a k i q).2 h4]
  · exact ⟨trivial, rfl⟩
  · exact ⟨trivial, rfl⟩
theorem xt.S0 {ad ad' : Nat → Nat → Nat} {h h' : ev_H} (a : xt ad h ad' h') : ∀ (st : List ev_V), lvS h st → lvS h' st ∧ st.map (cv ad') = st.map (cv ad)
  | [], _ => ⟨trivial, rfl⟩
  | v :: t, q => by
    obtain ⟨h1, h2⟩ := a.V (lvS_1 q)
    obtain ⟨h3, h4⟩ := xt.S0 a t (lvS_2 q)
    exact ⟨lvS_c h1 h3, by rw [List.map_cons, List.map_cons, h2, h4]⟩
theorem xt.S {ad ad' : Nat → Nat → Nat} {h h' : ev_H} (a : xt ad h ad' h') {st : List ev_V} (q : lvS h st) : lvS h' st ∧ st.map (cv ad') = st.map (cv ad) := xt.S0 a st q
theorem nbq {i j : Nat} (q : ¬ i = j) : Nat.beq i j = false := by
  cases hb : Nat.beq i j
  · rfl
  · exact absurd (Nat.eq_of_beq_eq_true hb) q
theorem nbq' {i j : Nat} (q : Nat.beq i j = false) : ¬ i = j := fun e => by rw [e, Nat.beq_refl] at q; cases q
def lget : List (Nat × ev_V) → Nat → Option ev_V
  | [], _ => none
  | (j, w) :: t, i => cond (Nat.beq j i) (some w) (lget t i)
def lset : List (Nat × ev_V) → Nat → ev_V → List (Nat × ev_V)
  | [], i, v => [(i, v)]
  | (j, w) :: t, i, v => cond (Nat.beq j i) ((i, v) :: t) (cond (Nat.blt i j) ((i, v) :: (j, w) :: t) ((j, w) :: lset t i v))
theorem lget_lset : ∀ (l : List (Nat × ev_V)) (i j : Nat) (v w : ev_V), lget (lset l i v) j = some w → (j = i ∧ w = v) ∨ (j ≠ i ∧ lget l j = some w)
  | [], i, j, v, w, q => by
    by_cases h : i = j
    · subst h
      have : some v = some w := by simpa [lset, lget] using q
      exact Or.inl ⟨rfl, (Option.some.inj this).symm⟩
    · have : Nat.beq i j = false := nbq h
      simp [lset, lget, this] at q
  | (a, b) :: t, i, j, v, w, q => by
    by_cases h : a = i
    · subst h
      have e1 : lset ((a, b) :: t) a v = (a, v) :: t := by simp [lset]
      rw [e1] at q
      by_cases h2 : a = j
      · subst h2
        have : some v = some w := by simpa [lget] using q
        exact Or.inl ⟨rfl, (Option.some.inj this).symm⟩
      · have e2 : Nat.beq a j = false := nbq h2
        exact Or.inr ⟨fun z => h2 z.symm, by simpa [lget, e2] using q⟩
    · have e1 : Nat.beq a i = false := nbq h
      by_cases h1 : i < a
      · have e2 : Nat.blt i a = true := by simpa [Nat.blt_eq] using h1
        have e3 : lset ((a, b) :: t) i v = (i, v) :: (a, b) :: t := by simp [lset, e1, e2]
        rw [e3] at q
        by_cases h2 : i = j
        · subst h2
          have : some v = some w := by simpa [lget] using q
          exact Or.inl ⟨rfl, (Option.some.inj this).symm⟩
        · have e4 : Nat.beq i j = false := nbq h2
          refine Or.inr ⟨fun z => h2 z.symm, ?_⟩
          have e5 : lget ((i, v) :: (a, b) :: t) j = lget ((a, b) :: t) j := by
            show cond (Nat.beq i j) _ _ = _
            rw [e4]; rfl
          rw [← e5]; exact q
      · have e2 : Nat.blt i a = false := by
          cases hb : Nat.blt i a
          · rfl
          · exact absurd (by simpa [Nat.blt_eq] using hb) h1
        have e3 : lset ((a, b) :: t) i v = (a, b) :: lset t i v := by simp [lset, e1, e2]
        rw [e3] at q
        by_cases h2 : a = j
        · subst h2
          have : some b = some w := by simpa [lget] using q
          refine Or.inr ⟨h, ?_⟩
          rw [← this]
          simp [lget]
        · have e4 : Nat.beq a j = false := nbq h2
          have q' : lget (lset t i v) j = some w := by
            have e5 : lget ((a, b) :: lset t i v) j = lget (lset t i v) j := by
              show cond (Nat.beq a j) _ _ = _
              rw [e4]; rfl
            rw [← e5]; exact q
          rcases lget_lset t i j v w q' with z | ⟨z1, z2⟩
          · exact Or.inl z
          · refine Or.inr ⟨z1, ?_⟩
            show cond (Nat.beq a j) _ _ = _
            rw [e4]; exact z2
/-- the locals -/
def ev_LR (ad : Nat → Nat → Nat) (h : ev_H) (n : Nat) (l : List (Nat × ev_V)) (A : Array Slot) : Prop :=
  ∃ lv, lv_has A n lv ∧ ∀ i v, lget l i = some v → (i, cv ad v) ∈ lv ∧ lvV h v ∧ (cv ad v).category = 1
theorem ev_LR.at {ad : Nat → Nat → Nat} {h : ev_H} {n : Nat} {l : List (Nat × ev_V)} {A : Array Slot} (q : ev_LR ad h n l A) {i : Nat} {v : ev_V} (hl : lget l i = some v) : A[i]? = some (.val (cv ad v)) ∧ lvV h v := by
  obtain ⟨lv, h1, h2⟩ := q
  exact ⟨h1.2.2 _ (h2 i v hl).1, (h2 i v hl).2.1⟩
theorem ev_LR.mv {ad ad' : Nat → Nat → Nat} {h h' : ev_H} {n : Nat} {l : List (Nat × ev_V)} {A : Array Slot} (q : ev_LR ad h n l A) (x : xt ad h ad' h') : ev_LR ad' h' n l A := by
  obtain ⟨lv, h1, h2⟩ := q
  refine ⟨lv, h1, fun i v hl => ?_⟩
  obtain ⟨a1, a2, a3⟩ := h2 i v hl
  obtain ⟨b1, b2⟩ := x.V a2
  rw [b2]
  exact ⟨a1, b1, a3⟩
theorem ev_LR.sz {ad : Nat → Nat → Nat} {h : ev_H} {n : Nat} {l : List (Nat × ev_V)} {A : Array Slot} (q : ev_LR ad h n l A) : A.size = n := by
  obtain ⟨lv, h1, -⟩ := q
  exact h1.1
/-- fewer locals -/
theorem ev_LR.sub {ad : Nat → Nat → Nat} {h : ev_H} {n : Nat} {l l' : List (Nat × ev_V)} {A : Array Slot} (q : ev_LR ad h n l A) (hs : ∀ i v, lget l' i = some v → lget l i = some v) : ev_LR ad h n l' A := by
  obtain ⟨lv, h1, h2⟩ := q
  exact ⟨lv, h1, fun i v hl => h2 i v (hs i v hl)⟩
theorem ev_LR.set {ad : Nat → Nat → Nat} {h : ev_H} {n : Nat} {l : List (Nat × ev_V)} {A : Array Slot} (q : ev_LR ad h n l A) {i : Nat} (hi : i < n) {v : ev_V} (hv : lvV h v) (hc : (cv ad v).category = 1) :
    ∃ A', storeLocals A i (cv ad v) = some A' ∧ ev_LR ad h n (lset l i v) A' := by
  obtain ⟨lv, h1, h2⟩ := q
  obtain ⟨A', e1, e2⟩ := lv_store1 h1 hi hc
  refine ⟨A', e1, _, e2, fun j w hw => ?_⟩
  rcases lget_lset l i j v w hw with ⟨rfl, rfl⟩ | ⟨z1, z2⟩
  · exact ⟨List.mem_cons_self, hv, hc⟩
  · obtain ⟨a1, a2, a3⟩ := h2 j w z2
    refine ⟨List.mem_cons_of_mem _ (List.mem_filter.mpr ⟨a1, ?_⟩), a2, a3⟩
    simp [z1, a3]
end
section
/-! laws of exceptions, out of the given text (laws/NAMES.whole: vx_); ev_thrS, ev_thrW follow vx_throwS, vx_throwSW there, with an end of their own -/
section VXA
variable {p : Program} {l : Launch} {e : Env} {R : Room} {s : State} {m : MethodId} {args : Array Value} {below : List Frame} {meth : Method} {c : Code} {H : Heap} {locs : List Loc} {cells slots : Nat} {Q : State → Prop}
variable {ls : Array Slot} {rest : List Value}
theorem vx_frame {U : State} {k n : Nat} (h : s.sameButNew ({ U with vm := s.vm } : State) locs k n) : s.heap.size ≤ U.heap.size ∧ ∀ q : Nat, q < s.heap.size → (∀ z ∈ locs, z.base ≠ q) → U.heap[q]? = s.heap[q]? := by
  obtain ⟨-, h2, -, -, -, h6⟩ := h
  refine ⟨h2, fun q hq hz => ?_⟩
  obtain ⟨c9, e1, e2, e3, e4⟩ := h6 q _ (Array.getElem?_eq_getElem hq)
  have hs : c9.slots = (s.heap[q]).slots := Array.ext_getElem? fun i => e4 i fun hm => hz _ hm rfl
  have h9 : c9 = s.heap[q] := by
    rw [hs] at e2
    exact e2
  have e5 : U.heap[q]? = some c9 := e1
  rw [e5, h9, Array.getElem?_eq_getElem hq]
def vx_no (w : Cond) : Bool := decide (w ≠ .isRef (.static Bundle.tN "UNASSIGNED_STACK" Bundle.steD)) && decide (w ≠ .isRef (.static Bundle.tN "SUPPRESSED_SENTINEL" Bundle.listD)) && decide (w ≠ .laysStatic Bundle.tN "UNASSIGNED_STACK" Bundle.steD) && decide (w ≠ .laysStatic Bundle.tN "SUPPRESSED_SENTINEL" Bundle.listD)
def vx_ot (w : Cond) : Bool := w.onTables || goodWord w
theorem vx_ot_at {args a' : Array Value} {s U : State} {w : Cond} (hW : s.WarmedH U.vm) (hvm : s.vm = U.vm) (hg : vx_ot w = true) (h : w.before args s = true) : w.before a' U = true := by
  simp only [vx_ot, Bool.or_eq_true] at hg
  rcases hg with hg | hg
  · exact va_tabs hg hvm h
  · exact word_at hW (good_of_word hg) h
theorem vx_own {args : Array Value} {s : State} {L : List Cond} (h1 : ∀ w ∈ L.filter vx_no, w.before args s = true)
    (hU : (Cond.isRef (.static Bundle.tN "UNASSIGNED_STACK" Bundle.steD)).before args s = true) (hN : (Cond.isRef (.static Bundle.tN "SUPPRESSED_SENTINEL" Bundle.listD)).before args s = true)
    (lU : (Cond.laysStatic Bundle.tN "UNASSIGNED_STACK" Bundle.steD).before args s = true) (lN : (Cond.laysStatic Bundle.tN "SUPPRESSED_SENTINEL" Bundle.listD).before args s = true) : ∀ w ∈ L, w.before args s = true := by
  intro w hw
  by_cases e1 : w = .isRef (.static Bundle.tN "UNASSIGNED_STACK" Bundle.steD)
  · rw [e1]; exact hU
  · by_cases e2 : w = .isRef (.static Bundle.tN "SUPPRESSED_SENTINEL" Bundle.listD)
    · rw [e2]; exact hN
    · by_cases e3 : w = .laysStatic Bundle.tN "UNASSIGNED_STACK" Bundle.steD
      · rw [e3]; exact lU
      · by_cases e4 : w = .laysStatic Bundle.tN "SUPPRESSED_SENTINEL" Bundle.listD
        · rw [e4]; exact lN
        · exact h1 w (List.mem_filter.mpr ⟨hw, by unfold vx_no; rw [decide_eq_true e1, decide_eq_true e2, decide_eq_true e3, decide_eq_true e4]; rfl⟩)
def vx_L (C n d : String) (A : Nat → Prop) (U : State) (H : Heap) : Prop := ∃ (c : ClassId) (k : Class) (i : Nat) (f : Field) (a : Nat) (cell : Cell), U.vm.findClass C = some c ∧ U.fieldFound? C n d = some (c, k, i, f) ∧ f.isStatic = true ∧ k.statics = some a ∧ H[a]? = some cell ∧ cell.vm.isStatics = true ∧ cell.cls = c ∧ f.slot < cell.slots.size ∧ k.staticTypes[f.slot]? = some f.type ∧ ¬ A a
theorem vx_L.moved {C n d : String} {A : Nat → Prop} {u U : State} {H : Heap} (hvm : u.vm.Alike U.vm) (h : vx_L C n d A u H) : vx_L C n d A U H := by
  obtain ⟨c, k, i, f, a, cell, h1, h2, h3, h4, h5, h6, h7, h8, h9, h10⟩ := h
  obtain ⟨k', hi', he⟩ := State.fieldFound?_setVm hvm h2
  exact ⟨c, k', i, f, a, cell, by rw [hvm.findClass]; exact h1, hi', h3, by rw [he]; exact h4, h5, h6, h7, h8, by rw [he]; exact h9, h10⟩
theorem vx_L.kept {C n d : String} {A : Nat → Prop} {U : State} {H H1 : Heap} (h : vx_L C n d A U H) (hq : ∀ a : Nat, a < H.size → ¬ A a → H1[a]? = H[a]?) : vx_L C n d A U H1 := by
  obtain ⟨c, k, i, f, a, cell, h1, h2, h3, h4, h5, h6, h7, h8, h9, h10⟩ := h
  exact ⟨c, k, i, f, a, cell, h1, h2, h3, h4, by rw [hq a (Array.getElem?_eq_some_iff.mp h5).1 h10]; exact h5, h6, h7, h8, h9, h10⟩
theorem vx_L.narrow {C n d : String} {A B : Nat → Prop} {U : State} {H : Heap} (h : vx_L C n d A U H) (hAB : ∀ q, B q → A q) : vx_L C n d B U H := by
  obtain ⟨c, k, i, f, a, cell, h1, h2, h3, h4, h5, h6, h7, h8, h9, h10⟩ := h
  exact ⟨c, k, i, f, a, cell, h1, h2, h3, h4, h5, h6, h7, h8, h9, fun z => h10 (hAB _ z)⟩
theorem vx_L.word {C n d : String} {A : Nat → Prop} {s : State} {args : Array Value} (h : vx_L C n d A s s.heap) : (Cond.laysStatic C n d).before args s = true := by
  obtain ⟨c, k, i, f, a, cell, h1, h2, h3, h4, h5, h6, h7, h8, h9, -⟩ := h
  show (Cond.laysStatic C n d).holds args s none s [] = true
  exact Cond.laysStatic_of h1 h2 h3 h4 h5 h6 h7 h8 h9
def vx_Zq (C n d : String) (A : Nat → Prop) (U : State) (H : Heap) : Prop := va_Zq C n d A U H ∧ vx_L C n d A U H
theorem vx_Zq.moved {C n d : String} {A : Nat → Prop} {u U : State} {H : Heap} (hvm : u.vm.Alike U.vm) (h : vx_Zq C n d A u H) : vx_Zq C n d A U H := ⟨va_Zq.moved hvm h.1, vx_L.moved hvm h.2⟩
theorem vx_Zq.kept {C n d : String} {A : Nat → Prop} {U : State} {H H1 : Heap} (h : vx_Zq C n d A U H) (hq : ∀ a : Nat, a < H.size → ¬ A a → H1[a]? = H[a]?) : vx_Zq C n d A U H1 := ⟨va_Zq.kept h.1 hq, vx_L.kept h.2 hq⟩
theorem vx_Zq.narrow {C n d : String} {A B : Nat → Prop} {U : State} {H : Heap} (h : vx_Zq C n d A U H) (hAB : ∀ q, B q → A q) : vx_Zq C n d B U H := ⟨va_Zq.narrow h.1 hAB, vx_L.narrow h.2 hAB⟩
theorem vx_Zqof {args : Array Value} {s : State} {C n d : String} {A : Nat → Prop} (hl : (Cond.laysStatic C n d).before args s = true) (hini : (Cond.initialized C).before args s = true) (h : (Cond.isRef (.static C n d)).before args s = true) (hA : ∀ a : Nat, a < s.heap.size → ¬ A a) : vx_Zq C n d A s s.heap := by
  refine ⟨va_Zqof hl hini h hA, ?_⟩
  obtain ⟨c, k, i, f, a, cell, h1, h2, h3, h4, h5, h6, h7, h8, h9⟩ := Cond.laysStatic_spec hl
  exact ⟨c, k, i, f, a, cell, h1, h2, h3, h4, h5, h6, h7, h8, h9, hA a (Array.getElem?_eq_some_iff.mp h5).1⟩
theorem vx_isRef {C n d : String} {v : Value} {A : Nat → Prop} {s : State} {args : Array Value} (h : va_Z C n d v A s s.heap) (hv : v.isRef = true) : (Cond.isRef (.static C n d)).before args s = true := by
  obtain ⟨cf, kf, fi, f, a, cell, h1, h2, h3, h4, h5, h6, h7, -⟩ := h
  have he : (Term.static C n d).eval args s none [] s = some v := by
    simp [Term.eval, State.fieldNamed?, h1, h2, h4, h5, h6, h7]
  simp only [Cond.before, Cond.holds, Cond.value, he]
  cases v <;> simp_all [Value.isRef]
theorem vx_isRefq {C n d : String} {A : Nat → Prop} {s : State} {args : Array Value} (h : va_Zq C n d A s s.heap) : (Cond.isRef (.static C n d)).before args s = true := by
  rcases h with h | ⟨t, h⟩
  · exact vx_isRef h rfl
  · exact vx_isRef h rfl
theorem vx_rebase {T : State} (X : Stand p l e R s m args below meth c T locs cells slots) {R' : Room} (hf : R'.frames ≤ R.frames) (hl : R'.locals ≤ R.locals) (hc : cells + R'.cells ≤ R.cells) (hs : slots + R'.slots ≤ R.slots) :
    Stand p l e R' ((T.setVm s.vm).setFrames (.invoking m args :: below)) m args below meth c T [] 0 0 := by
  have htop : (T.setVm s.vm).topJava?.isSome := X.here.top
  have hF : ((T.setVm s.vm).setFrames (.invoking m args :: below)).frames = .invoking m args :: below := State.frames_setFrames _ (State.cur_lt_of_top htop)
  obtain ⟨g₀, hg0⟩ := Option.isSome_iff_exists.mp htop
  obtain ⟨r, hr⟩ := State.topJava?_eq_some.mp hg0
  have hl9 : e.platform.stackLimits (T.setVm s.vm).me = e.platform.stackLimits s.me := X.limits
  have hb9 : (T.setVm s.vm).me.stackBytes = s.me.stackBytes := X.bytes
  refine ⟨X.admits, X.cas, X.clock, hF, ?_, X.hears, X.method, X.code, X.here, X.tail, X.warmed, ?_, ?_, ?_⟩
  · have h := X.room
    have hU : ((T.setVm s.vm).setFrames (.invoking m args :: below)).localsInUse = s.localsInUse := by
      rw [State.localsInUse_invoking hF (meth := meth) (c := c) X.method X.code, State.localsInUse_invoking X.frames X.method X.code]
    simp only [State.hasRoom, Bool.and_eq_true, decide_eq_true_eq] at h ⊢
    obtain ⟨⟨⟨⟨h1, h2, h3, h4, h5, h6⟩, h7⟩, h8⟩, h9⟩ := h
    rw [X.frames, List.length_cons] at h2 h3
    have q1 := X.heapSize
    have q2 := X.used
    simp only [hF, hU, List.length_cons, State.stackLimits_setFrames, State.stackBytes_setFrames, hl9, hb9]
    refine ⟨⟨⟨⟨by omega, by omega, by omega, by omega, by omega, h6⟩, ?_⟩, ?_⟩, X.book⟩
    · show T.heap.size + R'.cells ≤ e.platform.maxCells
      omega
    · show T.slotsUsed + R'.slots ≤ e.platform.maxSlots
      omega
  · rw [State.stackLimits_setFrames]; rfl
  · rw [State.stackBytes_setFrames]; rfl
  · refine ⟨?_, Nat.le_refl _, Nat.le_refl _, ?_, ?_, fun a c9 h9 => ⟨c9, h9, rfl, rfl, fun _ _ => rfl⟩⟩
    · obtain ⟨t, ht, -⟩ := State.frames_cons hr
      show T.setVm s.vm = { ((T.setVm s.vm).setFrames (.invoking m args :: below)).setFrames (T.setVm s.vm).frames with heap := T.heap, slotsUsed := T.slotsUsed }
      rw [State.setFrames_setFrames, State.setFrames_self ht]
      rfl
    · show T.slotsUsed = T.slotsUsed + ((T.heap.toList.drop T.heap.size).map (·.slots.size)).sum
      rw [List.drop_eq_nil_of_le (Nat.le_of_eq Array.length_toList)]
      rfl
    · show ((T.heap.toList.drop T.heap.size).map (·.slots.size)).sum ≤ 0
      rw [List.drop_eq_nil_of_le (Nat.le_of_eq Array.length_toList)]
      exact Nat.le_refl _
/-- an exception made with a text and thrown at once, no traces kept, its constructor's link at any place of its pool (follows the library's ctorThrowS, with its chainSX) -/
theorem ev_ctorX {W : State} (X : Stand p l e R s m args below meth c W locs cells slots) (hexec : p.tables.exec = Jvm.exec) (htr : e.platform.stackTraces = false) {own cls : String} {names : List String} {ic ix : Nat} {rx : ByteArray}
    (x0 : decode rx 0 = .ok (.aload_n 0, 1)) (x1 : decode rx 1 = .ok (.aload_n 1, 1)) (x2 : decode rx 2 = .ok (.invokespecial ix, 3)) (x5 : decode rx 5 = .ok (.return_, 1))
    (hown : s.vm.findClass own = some m.cls) (hcls : Bundle.fit cls = true) (hnames : ∀ n ∈ names, Bundle.fit n = true) (h : ∀ a ∈ Bundle.ownAtomsX own ic cls ix rx names, a.before args s = true)
    (hlocs : ∀ x ∈ locs, ∀ cell, s.heap[x.base]? = some cell → cell.vm.isStatics = false)
    {a : Addr} {cX : ClassId} {kX : Class} (hfoundX : s.vm.findClass cls = some cX) (hkX : s.vm.classes[cX]? = some kX) (hcell : W.heap[a]? = some (freshCell cX kX)) (hnew : s.heap.size ≤ a) {msg : Value} (hmsg : msg.isRef = true)
    {g : JFrame} (hg : g.method = m) (hsize : g.locals.size = c.maxLocals) (hlocked : g.locked = none) (hentered : g.entered = []) {rest : List Value} (hstack : g.stack = msg :: .ref a :: .ref a :: rest)
    (hd6 : decode c.code g.pc = .ok (.invokespecial ic, 3)) (hd9 : decode c.code (g.pc + 3) = .ok (.athrow, 1)) (hout : ∀ x ∈ c.exceptionTable.toList, covers x (g.pc + 3) = false)
    (hRframes : names.length + 3 < R.frames) (hRlocals : 2 * g.monitorRoom + ((Value.ref a :: rest).map fun v => v.category).sum + (13 * (names.length + 1) + 42) ≤ R.locals) (hlocks : meth.locks = false) :
    ∃ U : State, Steps p.tables e below (W.setTop g) U ∧ U.status = .running ∧ Ended U below (.threw a) ∧ s.WarmedH U.vm ∧ s.sameButNew ({ U with vm := s.vm } : State) locs cells slots ∧ ∃ ce : Cell, U.heap[a]? = some ce ∧ ce.vm = .none ∧ s.vm.findClass cls = some ce.cls := by
  have howns : e.platform.frameOwnsMonitors = true := by rw [X.admits.platform]
  have hfin : e.platform.finalization = false := by rw [X.admits.platform]
  have hpl : e.platform.magicAccessors = ({} : Platform).magicAccessors := by rw [X.admits.platform]
  have w : ∀ x, x ∈ Bundle.ownAtomsX own ic cls ix rx names → x.holds args s none s [] = true := fun x hx => h x hx
  obtain ⟨T, Z0, L, -, Y⟩ := ThrowableC.of_atoms (args := args) howns hfin hpl (fun x hx => h x (by simp [Bundle.ownAtomsX, hx]))
  obtain ⟨Z, M, LZ, LM, hnZ⟩ := Init0T.ofS_atoms (args := args) hpl L Y (fun x hx => h x (by simp [Bundle.ownAtomsX, hx]))
  obtain ⟨P1, Ps, hlen, L1, hL, hP1m, hlink1, hlink⟩ := Bundle.chainSX (args := args) hpl hnZ x0 x1 x2 x5 names cls hcls hnames (fun x hx => h x (by simp [Bundle.ownAtomsX, hx]))
  have hfound : s.vm.findClass cls = some P1.m.cls := findClass_of_methodNamed hP1m
  cases Option.some.inj (hfoundX.symm.trans hfound)
  obtain ⟨c1, kX', hc1, hk, hord, -, -, hn6⟩ := Cond.instantiable_spec (w (.instantiable cls 6) (by simp [Bundle.ownAtomsX]))
  cases Option.some.inj (hc1.symm.trans hfound)
  cases Option.some.inj (hkX.symm.trans hk)
  have hsel : ∀ {y : MethodName} {f : MethodId}, (Cond.selects cls y y).holds args s none s [] = true → s.methodNamed? y = some f → y.cls ≠ "java/lang/invoke/MethodHandle" ∧ y.cls ≠ "java/lang/invoke/VarHandle" → selectMethod e.platform s.vm P1.m.cls f = .method f := by
    intro y f hs hn hne
    obtain ⟨c2, r2, m2, q1, q2, q3, q4, -⟩ := Cond.selects_spec hs
    cases Option.some.inj (q1.symm.trans hfound)
    cases Option.some.inj (q2.symm.trans (State.methodFound?_of_named hn hne))
    cases Option.some.inj (q3.symm.trans hn)
    rw [Launch.admits_selectMethod X.admits]; exact q4
  have hsel0 := hsel (w (.selects cls Bundle.tFill0 Bundle.tFill0) (by simp [Bundle.ownAtomsX])) Y.fill0 (by decide)
  have hselF := hsel (w (.selects cls Bundle.tFill Bundle.tFill) (by simp [Bundle.ownAtomsX])) Y.fill (by decide)
  obtain ⟨cellS0, hcS0, hiss⟩ := Y.statics
  obtain ⟨u0, hu0⟩ := Cond.staticRefV Y.unassigned L.unassignedStatic L.statics hcS0 hiss (w (.isRef (.static Bundle.tN "UNASSIGNED_STACK" Bundle.steD)) (by simp [Bundle.ownAtomsX]))
  obtain ⟨sen, hsen⟩ := Cond.staticRefV Y.sentinel L.sentinelStatic L.statics hcS0 hiss (w (.isRef (.static Bundle.tN "SUPPRESSED_SENTINEL" Bundle.listD)) (by simp [Bundle.ownAtomsX]))
  obtain ⟨ci198, i198, fB, hk198, hg198, ha198, hsB, -, hnB, htB, hffB⟩ := Cond.ownField (t := .object "java/lang/Object") Y.found L.cls (by decide +kernel) (w (.fieldLink Bundle.tN 198 Bundle.tN "backtrace" "Ljava/lang/Object;") (by simp [Bundle.ownAtomsX])) (w (.lays Bundle.tN Bundle.tN "backtrace" "Ljava/lang/Object;") (by simp [Bundle.ownAtomsX])) e.platform hpl
  obtain ⟨cellS, hcS', heS, -, hkeep⟩ := X.same.2.2.2.2.2 T.aS cellS0 hcS0
  have hcellS : W.heap[T.aS]? = some cellS := hcS'
  have hout' : ∀ i, (⟨T.aS, i⟩ : Loc) ∉ locs := fun i hmem => by
    have := hlocs _ hmem cellS0 hcS0
    rw [hiss] at this; cases this
  have hknownS : cellS.vm ≠ .unknown := by
    rw [heS]; intro hu
    rw [show cellS0.vm = .unknown from hu] at hiss
    cases hiss
  have hneS : T.aS ≠ a := Nat.ne_of_lt (Nat.lt_of_lt_of_le (Array.getElem?_eq_some_iff.mp hcS0).1 hnew)
  obtain ⟨iM, hffM⟩ := Y.msg
  obtain ⟨tyC, dC, hdC, hdnC⟩ := Cond.laysAt hfound hk Y.cause (w (.lays cls Bundle.tN "cause" "Ljava/lang/Throwable;") (by simp [Bundle.ownAtomsX]))
  obtain ⟨tyS, dS, hdS, hdnS⟩ := Cond.laysAt hfound hk Y.stack (w (.lays cls Bundle.tN "stackTrace" Bundle.steD) (by simp [Bundle.ownAtomsX]))
  obtain ⟨tyP, dP, hdP, hdnP⟩ := Cond.laysAt hfound hk Y.supp (w (.lays cls Bundle.tN "suppressedExceptions" Bundle.listD) (by simp [Bundle.ownAtomsX]))
  obtain ⟨tyM, dM, hdM, hdnM⟩ := Cond.laysAt hfound hk hffM (w (.lays cls Bundle.tN "detailMessage" "Ljava/lang/String;") (by simp [Bundle.ownAtomsX]))
  obtain ⟨tyB, dB, hdB, hdnB⟩ := Cond.laysAt hfound hk hffB (w (.lays cls Bundle.tN "backtrace" "Ljava/lang/Object;") (by simp [Bundle.ownAtomsX]))
  have bC := Cond.laysApart hdB hdC hdnB hdnC (by rw [hnB, Y.causeName]; decide)
  have bS := Cond.laysApart hdB hdS hdnB hdnS (by rw [hnB, Y.stackName]; decide)
  have bP := Cond.laysApart hdB hdP hdnB hdnP (by rw [hnB, Y.suppName]; decide)
  have hskip : SkipFacts T e.platform s (fun u => u) u0 ((preparedCellV T.toThrowableT (freshCell P1.m.cls kX) a u0 sen).withEntry W.cur) :=
    ⟨{ ci198 := ci198, i198 := i198, fBack := fB }, ⟨hk198, hg198, ha198, hsB⟩, by
      have := fresh_default (c := P1.m.cls) tyB
      rw [htB] at this
      simpa [preparedCellV, Cell.setSlot, Cell.withEntry, Array.getElem?_setIfInBounds, bC, bS, bP, bC.symm, bS.symm, bP.symm, defaultValue] using this, fun _ _ => rfl⟩
  obtain ⟨tm, methC, cdC, kC, vm₁, hnC, -, -, -, -, -, -, -, hW₁, st1⟩ := Steps.initColdS (tb := p.tables) (e := e) (below := below) (s := s) (U := W) X.here hexec X.warmed hpl hown (t := Bundle.initS cls) rfl rfl (Bundle.fit_spec hcls).2
    (w (.methodLink own ic (Bundle.initS cls)) (by simp [Bundle.ownAtomsX])) (h (.instanceMethod (Bundle.initS cls)) (by cases names <;> simp [Bundle.ownAtomsX, Bundle.chainSAtomsX, Bundle.passSAtoms])) (bytes := rx) (maxL := 2) (h (.code (Bundle.initS cls) rx 2 none) (by cases names <;> simp [Bundle.ownAtomsX, Bundle.chainSAtomsX, Bundle.passSAtoms]))
    (f := g) hg (a := a) (msg := msg) (rest := .ref a :: rest) hstack hd6
  cases Option.some.inj (hnC.symm.trans hP1m)
  have X₁ := X.noted hW₁
  obtain ⟨vm₂, X₂, st2⟩ := X₁.ctorMessageOffV hexec (g := { g with stack := .ref a :: rest }) hg hsize T L Z LZ M LM (P1 :: Ps)
    (fun P hP => by rcases List.mem_cons.mp hP with rfl | hP; exact L1; exact hL P hP) ⟨hlink1, hlink⟩ (u0 := u0) (sen := sen) (self := a) hmsg (cell := freshCell P1.m.cls kX) (cellS := cellS)
    hcell (fun _ => by simp) (by simp) rfl rfl hsel0 hselF hcellS hneS hknownS (by rw [hkeep _ (hout' _)]; exact hu0) (by rw [hkeep _ (hout' _)]; exact hsen)
    (Takes.of_laid hk hord tyC (by rw [Y.causeType]; rfl)) (Takes.of_laid hk hord tyS (by rw [Y.stackType]; exact fits_refV_array _ u0)) (Takes.of_laid hk hord tyP (by rw [Y.suppType]; exact fits_refV_object _ sen))
    (Takes.of_laid hk hord tyM (by rw [Y.msgType]; exact fits_refV_object _ ⟨msg, hmsg⟩)) Y.objLocals hskip htr [] hd6
    (by simp only [List.length_cons, hlen]; omega) (by simp only [List.length_cons, hlen]; exact hRlocals)
  obtain ⟨hwalk, hrun, hended, hWU, hsame⟩ := X₂.athrowLeaves hexec (g := { g with stack := .ref a :: rest, pc := g.pc + 3 }) hg hlocked hentered hout (a := a) (rest := rest) rfl hd9
  have hlt : a < ((W.setVm vm₁).setVm vm₂).heap.size := (Array.getElem?_eq_some_iff.mp hcell).1
  have hU := heapAt_setCell_self (s := (W.setVm vm₁).setVm vm₂) (plainBareV T.toThrowableT (freshCell P1.m.cls kX) a u0 sen msg) hlt
  refine ⟨_, st1 _ (fun acts => ?_), hrun, hended, hWU, hsame.weaken (fun y hy hlt' => ?_) (Nat.le_refl _) (Nat.le_refl _), _, hU, rfl, hfound⟩
  · rw [doInvoke_state]
    exact st2 _ hwalk
  · rcases List.mem_append.mp hy with h1 | h1
    · exact h1
    · exfalso
      have hb : y.base = a := by
        simp only [List.mem_cons, List.not_mem_nil, or_false] at h1
        rcases h1 with rfl | rfl | rfl | rfl | rfl <;> rfl
      rw [hb] at hlt'
      exact Nat.not_lt.mpr hnew hlt'
def ev_at (own : String) (ic : Nat) (X : String) (ix : Nat) (rx : ByteArray) (names : List String) : List Cond := (Bundle.ownAtomsX own ic X ix rx names).filter vx_no

theorem ev_thrS {cc : ByteArray} {pc : Nat} (hexec : p.tables.exec = Jvm.exec) (hb : c.code = cc) (hl : l.stackTraces = false) {own cls text : String} {names : List String} {ik is ic sa : Nat} {A : Nat → Prop}
    {ix : Nat} {rx : ByteArray} (x0 : decode rx 0 = .ok (.aload_n 0, 1)) (x1 : decode rx 1 = .ok (.aload_n 1, 1)) (x2 : decode rx 2 = .ok (.invokespecial ix, 3)) (x5 : decode rx 5 = .ok (.return_, 1)) (hown : s.vm.findClass own = some m.cls) (hcls : Bundle.fit cls = true) (hnames : ∀ n ∈ names, Bundle.fit n = true)
    (hk : (Cond.classLink own ik cls).before args s = true) (hini : (Cond.initialized cls).before args s = true) (hstr : vk_R own is text sa s) (hat : ∀ w ∈ ev_at own ic cls ix rx names, w.before args s = true)
    (hgood : ∀ w ∈ Cond.classLink own ik cls :: Cond.initialized cls :: ev_at own ic cls ix rx names, vx_ot w = true)
    (hU : vx_Zq Bundle.tN "UNASSIGNED_STACK" Bundle.steD A s s.heap) (hN : vx_Zq Bundle.tN "SUPPRESSED_SENTINEL" Bundle.listD A s s.heap) (hS : va_S A s.heap H locs) (hsize : ls.size = c.maxLocals)
    (d0 : decode cc pc = .ok (.new ik, 3)) (d3 : decode cc (pc + 3) = .ok (.dup, 1)) (d4 : decode cc (pc + 4) = .ok (.ldc is, 2)) (d6 : decode cc (pc + 6) = .ok (.invokespecial ic, 3)) (d9 : decode cc (pc + 9) = .ok (.athrow, 1))
    (hout : ∀ x ∈ c.exceptionTable.toList, covers x (pc + 9) = false)
    (hRframes : names.length + 3 < R.frames) (hRlocals : (rest.map fun v => v.category).sum + (13 * (names.length + 1) + 43) ≤ R.locals) (hRcells : cells + 1 ≤ R.cells) (hRslots : slots + 6 ≤ R.slots) (hlocks : meth.locks = false)
    (kk : ∀ (U : State) (ce : Cell), U.status = .running → Ended U below (.threw H.size) → s.WarmedH U.vm → s.sameButNew ({ U with vm := s.vm } : State) locs (cells + 1) (slots + 6) → U.heap.size = H.size + 1 → (∀ q : Nat, q < H.size → U.heap[q]? = H[q]?) → U.heap[H.size]? = some ce → ce.vm = .none → s.vm.findClass cls = some ce.cls → Q U) :
    W p l e R s m args below meth c H locs cells slots Q (F0 m pc ls rest) := by
  intro T hT X
  have htr : e.platform.stackTraces = false := (show e.platform.stackTraces = l.stackTraces by rw [X.admits.platform]).trans hl
  have Y := vx_rebase X (R' := { frames := R.frames, locals := R.locals, cells := 1, slots := 6 }) (Nat.le_refl _) (Nat.le_refl _) hRcells hRslots
  obtain ⟨s', hA⟩ : ∃ z, z = (T.setVm s.vm).setFrames (.invoking m args :: below) := ⟨_, rfl⟩
  rw [← hA] at Y
  have hvm : s'.vm = s.vm := by rw [hA]; rfl
  have hhp : s'.heap = H := by rw [hA]; exact hT
  have hW0 : s.WarmedH s'.vm := by rw [hvm]; exact State.WarmedH.refl s
  have hat' : ∀ w ∈ ev_at own ic cls ix rx names, w.before args s' = true := fun w hw => vx_ot_at hW0 hvm.symm (hgood w (List.mem_cons_of_mem _ (List.mem_cons_of_mem _ hw))) (hat w hw)
  have hk' : (Cond.classLink own ik cls).before args s' = true := vx_ot_at hW0 hvm.symm (hgood _ List.mem_cons_self) hk
  have hini' : (Cond.initialized cls).before args s' = true := vx_ot_at hW0 hvm.symm (hgood _ (List.mem_cons_of_mem _ List.mem_cons_self)) hini
  have hU' : vx_Zq Bundle.tN "UNASSIGNED_STACK" Bundle.steD A s' s'.heap := by rw [hhp]; exact vx_Zq.moved hW0.alike (hU.kept hS.2.1)
  have hN' : vx_Zq Bundle.tN "SUPPRESSED_SENTINEL" Bundle.listD A s' s'.heap := by rw [hhp]; exact vx_Zq.moved hW0.alike (hN.kept hS.2.1)
  have h : ∀ w ∈ Bundle.ownAtomsX own ic cls ix rx names, w.before args s' = true := vx_own hat' (vx_isRefq hU'.1) (vx_isRefq hN'.1) hU'.2.word hN'.2.word
  have hown' : s'.vm.findClass own = some m.cls := by rw [hvm]; exact hown
  have hins : (Cond.instantiable cls 6).before args s' = true := h _ (by simp [Bundle.ownAtomsX])
  obtain ⟨vm₁, cX, kX, hfX, hkX, -, -, X₁, st1⟩ := Y.newCold hexec (own := own) (C := cls) (index := ik) (n := 6) hown' hk' hins hini'
    (g := F0 m pc ls rest) rfl (by rw [hb]; exact d0) (Nat.le_refl _) (Nat.le_refl _)
  generalize hT1 : (T.setVm vm₁).pushCell { cls := cX, slots := kX.instanceTypes.map defaultValue, vm := .none } = T1 at X₁ st1
  have hcat : (Value.ref T.heap.size).category = 1 := rfl
  have hcellA : T1.heap[T.heap.size]? = some (freshCell cX kX) := by rw [← hT1]; exact State.heap_pushCell_size _ _
  have d3' : decode c.code (pc + 3) = .ok (.dup, 1) := by rw [hb]; exact d3
  have d4' : decode c.code (pc + 4) = .ok (.ldc is, 2) := by rw [hb]; exact d4
  have hstr' : vk_R own is text sa s' := vk_R.warm hW0 hstr
  obtain ⟨U, hsteps, hrun, hend, hW, hsame, ce, hce, hOv, hOc⟩ := ev_ctorX X₁ hexec htr (own := own) (ix := ix) (rx := rx) (cls := cls) (names := names) (ic := ic) x0 x1 x2 x5 hown' hcls hnames h (fun x hx => nomatch hx) hfX hkX hcellA (by rw [hhp, hT]; exact Nat.le_refl _) (msg := .ref sa) rfl
    (g := { method := m, pc := pc + 6, locals := ls, stack := .ref sa :: .ref T.heap.size :: .ref T.heap.size :: rest, locked := none }) rfl hsize rfl rfl (rest := rest) rfl
    (by rw [hb]; exact d6) (by rw [hb]; exact d9) hout hRframes (by simp only [List.map_cons, List.sum_cons, hcat]; omega) hlocks
  obtain ⟨f1, f2⟩ := vx_frame hsame
  rw [hhp] at f1 f2
  have hWs : s.WarmedH U.vm := State.WarmedH.trans hW0 hW
  have hcl : s.vm.findClass cls = some ce.cls := by
    have h9 := hOc
    rw [hvm] at h9
    exact h9
  have hall : s.sameButNew ({ U with vm := s.vm } : State) locs (cells + 1) (slots + 6) := by
    subst hA
    obtain ⟨e1, e2⟩ := hsame
    rw [State.setFrames_setFrames] at e1
    have h2 : (T.setVm s.vm).sameButNew ({ U with vm := s.vm } : State) [] (0 + 1) (0 + 6) := ⟨e1, e2⟩
    have h3 := X.same.trans h2
    rw [List.append_nil] at h3
    exact h3
  have hsz : U.heap.size = H.size + 1 := by
    have h9 := (Array.getElem?_eq_some_iff.mp hce).1
    have h8 := hsame.2.2.1
    have h7 : U.heap.size ≤ s'.heap.size + (0 + 1) := h8
    rw [hhp] at h7
    rw [hT] at h9
    omega
  have hce' : U.heap[H.size]? = some ce := by rw [← hT]; exact hce
  have hend' : Ended U below (.threw H.size) := by rw [← hT]; exact hend
  refine ⟨U, ?_, kk U ce hrun hend' hWs hall hsz (fun q hq => f2 q hq (fun z hz => nomatch hz)) hce' hOv hcl⟩
  refine st1 _ ?_
  show Steps p.tables e below (T1.setTop { method := m, pc := pc + 3, locals := ls, stack := .ref T.heap.size :: rest, locked := none }) _
  jvm_step X₁.here [X₁.here.top, hexec, d3', Value.category]
  exact X₁.ldcString hexec (own := own) (text := text) (index := is) (a := sa) hown' hstr'.1 hstr'.2
    (g := { method := m, pc := pc + 4, locals := ls, stack := .ref T.heap.size :: .ref T.heap.size :: rest, locked := none }) rfl d4' _ hsteps
theorem ev_thrW {cc : ByteArray} {pc : Nat} (hexec : p.tables.exec = Jvm.exec) (hb : c.code = cc) (hl : l.stackTraces = false) {own cls text : String} {names : List String} {ik is ic sa : Nat} {A : Nat → Prop}
    {ix : Nat} {rx : ByteArray} (x0 : decode rx 0 = .ok (.aload_n 0, 1)) (x1 : decode rx 1 = .ok (.aload_n 1, 1)) (x2 : decode rx 2 = .ok (.invokespecial ix, 3)) (x5 : decode rx 5 = .ok (.return_, 1)) (hown : s.vm.findClass own = some m.cls) (hcls : Bundle.fit cls = true) (hnames : ∀ n ∈ names, Bundle.fit n = true)
    (hk : (Cond.classLink own ik cls).before args s = true) (hini : (Cond.initialized cls).before args s = true) (hstr : vk_R own is text sa s) (hat : ∀ w ∈ ev_at own ic cls ix rx names, w.before args s = true)
    (hgood : ∀ w ∈ Cond.classLink own ik cls :: Cond.initialized cls :: ev_at own ic cls ix rx names, vx_ot w = true)
    (hU : vx_Zq Bundle.tN "UNASSIGNED_STACK" Bundle.steD A s s.heap) (hN : vx_Zq Bundle.tN "SUPPRESSED_SENTINEL" Bundle.listD A s s.heap) (hS : va_S A s.heap H locs) (hsize : ls.size = c.maxLocals)
    (d0 : decode cc pc = .ok (.new ik, 3)) (d3 : decode cc (pc + 3) = .ok (.dup, 1)) (d4 : decode cc (pc + 4) = .ok (.ldc_w is, 3)) (d7 : decode cc (pc + 7) = .ok (.invokespecial ic, 3)) (d10 : decode cc (pc + 10) = .ok (.athrow, 1))
    (hout : ∀ x ∈ c.exceptionTable.toList, covers x (pc + 10) = false)
    (hRframes : names.length + 3 < R.frames) (hRlocals : (rest.map fun v => v.category).sum + (13 * (names.length + 1) + 43) ≤ R.locals) (hRcells : cells + 1 ≤ R.cells) (hRslots : slots + 6 ≤ R.slots) (hlocks : meth.locks = false)
    (kk : ∀ (U : State) (ce : Cell), U.status = .running → Ended U below (.threw H.size) → s.WarmedH U.vm → s.sameButNew ({ U with vm := s.vm } : State) locs (cells + 1) (slots + 6) → U.heap.size = H.size + 1 → (∀ q : Nat, q < H.size → U.heap[q]? = H[q]?) → U.heap[H.size]? = some ce → ce.vm = .none → s.vm.findClass cls = some ce.cls → Q U) :
    W p l e R s m args below meth c H locs cells slots Q (F0 m pc ls rest) := by
  intro T hT X
  have htr : e.platform.stackTraces = false := (show e.platform.stackTraces = l.stackTraces by rw [X.admits.platform]).trans hl
  have Y := vx_rebase X (R' := { frames := R.frames, locals := R.locals, cells := 1, slots := 6 }) (Nat.le_refl _) (Nat.le_refl _) hRcells hRslots
  obtain ⟨s', hA⟩ : ∃ z, z = (T.setVm s.vm).setFrames (.invoking m args :: below) := ⟨_, rfl⟩
  rw [← hA] at Y
  have hvm : s'.vm = s.vm := by rw [hA]; rfl
  have hhp : s'.heap = H := by rw [hA]; exact hT
  have hW0 : s.WarmedH s'.vm := by rw [hvm]; exact State.WarmedH.refl s
  have hat' : ∀ w ∈ ev_at own ic cls ix rx names, w.before args s' = true := fun w hw => vx_ot_at hW0 hvm.symm (hgood w (List.mem_cons_of_mem _ (List.mem_cons_of_mem _ hw))) (hat w hw)
  have hk' : (Cond.classLink own ik cls).before args s' = true := vx_ot_at hW0 hvm.symm (hgood _ List.mem_cons_self) hk
  have hini' : (Cond.initialized cls).before args s' = true := vx_ot_at hW0 hvm.symm (hgood _ (List.mem_cons_of_mem _ List.mem_cons_self)) hini
  have hU' : vx_Zq Bundle.tN "UNASSIGNED_STACK" Bundle.steD A s' s'.heap := by rw [hhp]; exact vx_Zq.moved hW0.alike (hU.kept hS.2.1)
  have hN' : vx_Zq Bundle.tN "SUPPRESSED_SENTINEL" Bundle.listD A s' s'.heap := by rw [hhp]; exact vx_Zq.moved hW0.alike (hN.kept hS.2.1)
  have h : ∀ w ∈ Bundle.ownAtomsX own ic cls ix rx names, w.before args s' = true := vx_own hat' (vx_isRefq hU'.1) (vx_isRefq hN'.1) hU'.2.word hN'.2.word
  have hown' : s'.vm.findClass own = some m.cls := by rw [hvm]; exact hown
  have hins : (Cond.instantiable cls 6).before args s' = true := h _ (by simp [Bundle.ownAtomsX])
  obtain ⟨vm₁, cX, kX, hfX, hkX, -, -, X₁, st1⟩ := Y.newCold hexec (own := own) (C := cls) (index := ik) (n := 6) hown' hk' hins hini'
    (g := F0 m pc ls rest) rfl (by rw [hb]; exact d0) (Nat.le_refl _) (Nat.le_refl _)
  generalize hT1 : (T.setVm vm₁).pushCell { cls := cX, slots := kX.instanceTypes.map defaultValue, vm := .none } = T1 at X₁ st1
  have hcat : (Value.ref T.heap.size).category = 1 := rfl
  have hcellA : T1.heap[T.heap.size]? = some (freshCell cX kX) := by rw [← hT1]; exact State.heap_pushCell_size _ _
  have d3' : decode c.code (pc + 3) = .ok (.dup, 1) := by rw [hb]; exact d3
  have d4' : decode c.code (pc + 4) = .ok (.ldc_w is, 3) := by rw [hb]; exact d4
  have hstr' : vk_R own is text sa s' := vk_R.warm hW0 hstr
  obtain ⟨U, hsteps, hrun, hend, hW, hsame, ce, hce, hOv, hOc⟩ := ev_ctorX X₁ hexec htr (own := own) (ix := ix) (rx := rx) (cls := cls) (names := names) (ic := ic) x0 x1 x2 x5 hown' hcls hnames h (fun x hx => nomatch hx) hfX hkX hcellA (by rw [hhp, hT]; exact Nat.le_refl _) (msg := .ref sa) rfl
    (g := { method := m, pc := pc + 7, locals := ls, stack := .ref sa :: .ref T.heap.size :: .ref T.heap.size :: rest, locked := none }) rfl hsize rfl rfl (rest := rest) rfl
    (by rw [hb]; exact d7) (by rw [hb]; exact d10) hout hRframes (by simp only [List.map_cons, List.sum_cons, hcat]; omega) hlocks
  obtain ⟨f1, f2⟩ := vx_frame hsame
  rw [hhp] at f1 f2
  have hWs : s.WarmedH U.vm := State.WarmedH.trans hW0 hW
  have hcl : s.vm.findClass cls = some ce.cls := by
    have h9 := hOc
    rw [hvm] at h9
    exact h9
  have hall : s.sameButNew ({ U with vm := s.vm } : State) locs (cells + 1) (slots + 6) := by
    subst hA
    obtain ⟨e1, e2⟩ := hsame
    rw [State.setFrames_setFrames] at e1
    have h2 : (T.setVm s.vm).sameButNew ({ U with vm := s.vm } : State) [] (0 + 1) (0 + 6) := ⟨e1, e2⟩
    have h3 := X.same.trans h2
    rw [List.append_nil] at h3
    exact h3
  have hsz : U.heap.size = H.size + 1 := by
    have h9 := (Array.getElem?_eq_some_iff.mp hce).1
    have h8 := hsame.2.2.1
    have h7 : U.heap.size ≤ s'.heap.size + (0 + 1) := h8
    rw [hhp] at h7
    rw [hT] at h9
    omega
  have hce' : U.heap[H.size]? = some ce := by rw [← hT]; exact hce
  have hend' : Ended U below (.threw H.size) := by rw [← hT]; exact hend
  refine ⟨U, ?_, kk U ce hrun hend' hWs hall hsz (fun q hq => f2 q hq (fun z hz => nomatch hz)) hce' hOv hcl⟩
  refine st1 _ ?_
  show Steps p.tables e below (T1.setTop { method := m, pc := pc + 3, locals := ls, stack := .ref T.heap.size :: rest, locked := none }) _
  jvm_step X₁.here [X₁.here.top, hexec, d3', Value.category]
  exact X₁.ldcStringW hexec (own := own) (text := text) (index := is) (a := sa) hown' hstr'.1 hstr'.2
    (g := { method := m, pc := pc + 4, locals := ls, stack := .ref T.heap.size :: .ref T.heap.size :: rest, locked := none }) rfl d4' _ hsteps
end VXA
theorem vx_table {l : Launch} {p : Program} {x y : MethodName} {S : Spec} {cc bytes : ByteArray} {maxL maxL' : Nat} {ret ret' : Option FieldType} {e : Env} {s s₁ : State} {m : MethodId} {args : Array Value} {below : List Frame} {meth : Method} {c : Code} {hh : List (Nat × Nat × Nat × Nat)}
    (B : BodyLoose p l y S cc maxL ret e s m args below meth c s₁) (h : (Cond.codeWith y bytes maxL' ret' hh).before args s = true) : c.exceptionTable.toList = tableOf hh := by
  obtain ⟨m9, meth9, c9, hn9, h1, h2, -, -, h6, -⟩ := Cond.codeWith_spec h
  cases Option.some.inj (hn9.symm.trans B.named)
  cases Option.some.inj (h1.symm.trans B.method)
  cases Option.some.inj (h2.symm.trans (Stand.of_body B).code)
  rw [← h6, table_eq]
end
section
/-! the classes, their fields; the shapes of cells (by program) -/
def T0 : u_T := fun k => ([("TypedBlood", "units", "[LTypedBlood$Unit;", true), ("TypedBlood", "patients", "[LTypedBlood$Patient;", true), ("TypedBlood", "ranking", "LTypedBlood$Ranking;", true), ("TypedBlood", "unitCount", "I", false), ("TypedBlood", "patientCount", "I", false), ("TypedBlood", "now", "I", false), ("TypedBlood", "quarantined", "I", false), ("TypedBlood", "issuesSoFar", "I", false)] : List (String × String × String × Bool)).getD k ("", "", "", false)
def T1 : u_T := fun k => ([("TypedBlood$Unit", "kind", "I", true), ("TypedBlood$Unit", "group", "I", true), ("TypedBlood$Unit", "rhesus", "I", true), ("TypedBlood$Unit", "donors", "I", true), ("TypedBlood$Unit", "expiry", "I", true), ("TypedBlood$Unit", "present", "I", false), ("TypedBlood$Unit", "absent", "I", false), ("TypedBlood$Unit", "marks", "I", false), ("TypedBlood$Unit", "state", "I", false), ("TypedBlood$Unit", "holder", "I", false), ("TypedBlood$Unit", "reservedUntil", "I", false), ("TypedBlood$Unit", "issuedAt", "I", false), ("TypedBlood$Unit", "issueOrder", "I", false), ("TypedBlood$Unit", "doctor", "I", false), ("TypedBlood$Unit", "discardReason", "I", false)] : List (String × String × String × Bool)).getD k ("", "", "", false)
def T2 : u_T := fun k => ([("TypedBlood$Patient", "status", "I", false), ("TypedBlood$Patient", "group", "I", false), ("TypedBlood$Patient", "rhesus", "I", false), ("TypedBlood$Patient", "sampledAt", "I", false), ("TypedBlood$Patient", "antibodies", "I", false), ("TypedBlood$Patient", "needs", "I", false), ("TypedBlood$Patient", "negativeAt", "[I", true)] : List (String × String × String × Bool)).getD k ("", "", "", false)
def T3 : u_T := fun k => ([("TypedBlood$Ranking", "numbers", "[I", true), ("TypedBlood$Ranking", "keys", "[I", true), ("TypedBlood$Ranking", "size", "I", false)] : List (String × String × String × Bool)).getD k ("", "", "", false)
def T4 : u_T := fun k => ([("TypedBloodModel", "thrown", "I", false), ("TypedBloodModel", "now", "I", false), ("TypedBloodModel", "units", "I", false), ("TypedBloodModel", "kinds", "[I", true), ("TypedBloodModel", "groups", "[I", true), ("TypedBloodModel", "rhesus", "[I", true), ("TypedBloodModel", "present", "[I", true), ("TypedBloodModel", "absent", "[I", true), ("TypedBloodModel", "marks", "[I", true), ("TypedBloodModel", "expiries", "[I", true), ("TypedBloodModel", "donors", "[I", true), ("TypedBloodModel", "states", "[I", true), ("TypedBloodModel", "whose", "[I", true), ("TypedBloodModel", "since", "[I", true), ("TypedBloodModel", "issues", "[I", true), ("TypedBloodModel", "doctors", "[I", true), ("TypedBloodModel", "reasons", "[I", true), ("TypedBloodModel", "latestIssue", "I", false), ("TypedBloodModel", "quarantined", "I", false), ("TypedBloodModel", "patients", "I", false), ("TypedBloodModel", "told", "[I", true), ("TypedBloodModel", "toldAt", "[I", true), ("TypedBloodModel", "status", "[I", true), ("TypedBloodModel", "antibodies", "[I", true), ("TypedBloodModel", "wants", "[I", true), ("TypedBloodModel", "matched", "[I", true)] : List (String × String × String × Bool)).getD k ("", "", "", false)
def vC : List vw_C := [("TypedBlood", T0, 8), ("TypedBlood$Unit", T1, 15), ("TypedBlood$Patient", T2, 7), ("TypedBlood$Ranking", T3, 3), ("TypedBloodModel", T4, 26)]
def nfl (ci : Nat) : Nat := cond (Nat.beq ci 0) 8 ( cond (Nat.beq ci 1) 15 ( cond (Nat.beq ci 2) 7 ( cond (Nat.beq ci 3) 3 (26))))
def isI (ci f : Nat) : Bool := cond (Nat.beq ci 0) (Nat.ble 3 f) (cond (Nat.beq ci 1) true (cond (Nat.beq ci 2) (Nat.blt f 6) (cond (Nat.beq ci 3) (Nat.beq f 2) (Nat.ble f 2 || (Nat.ble 17 f && Nat.ble f 19)))))
def fty (ci f : Nat) : FieldType := cond (isI ci f) .int (cond (Nat.beq ci 0) (cond (Nat.beq f 0) (.array (.object "TypedBlood$Unit")) (cond (Nat.beq f 1) (.array (.object "TypedBlood$Patient")) (.object "TypedBlood$Ranking"))) (.array .int))
/-- what a cell is: (0, number of its type), (1, length) ints, (2, length) longs, (3, length) Units, (4, length) Patients -/
def shp0 (i : Nat) : Nat × Nat := cond (Nat.beq i 0) (0, 0) (cond (Nat.beq i 1) (3, 48) (cond (Nat.beq i 2) (4, 10) (cond (Nat.beq i 3) (0, 3) (cond (Nat.blt i 6) (1, 48) (cond (Nat.beq i 6) (0, 4) (cond (Nat.blt i 21) (1, 48) (cond (Nat.blt i 26) (1, 10) (cond (Nat.beq i 26) (1, 480) (2, 1)))))))))
def shp (k i : Nat) : Nat × Nat := cond (Nat.beq k 0) (shp0 i) (cond (Nat.beq k 1) (0, 1) (cond (Nat.beq k 2) (0, 2) (1, 48)))
theorem T0_ty : ∀ f, f < 8 → parseFieldDescriptor (T0 f).2.2.1 = some (fty 0 f) := by decide +kernel
theorem T0_nm : ∀ a, a < 8 → ∀ b, b < 8 → a ≠ b → (T0 a).2.1 ≠ (T0 b).2.1 := by decide +kernel
theorem T0_dc : ∀ f, f < 8 → (T0 f).1 = "TypedBlood" := by decide +kernel
theorem T1_ty : ∀ f, f < 15 → parseFieldDescriptor (T1 f).2.2.1 = some (fty 1 f) := by decide +kernel
theorem T1_nm : ∀ a, a < 15 → ∀ b, b < 15 → a ≠ b → (T1 a).2.1 ≠ (T1 b).2.1 := by decide +kernel
theorem T1_dc : ∀ f, f < 15 → (T1 f).1 = "TypedBlood$Unit" := by decide +kernel
theorem T2_ty : ∀ f, f < 7 → parseFieldDescriptor (T2 f).2.2.1 = some (fty 2 f) := by decide +kernel
theorem T2_nm : ∀ a, a < 7 → ∀ b, b < 7 → a ≠ b → (T2 a).2.1 ≠ (T2 b).2.1 := by decide +kernel
theorem T2_dc : ∀ f, f < 7 → (T2 f).1 = "TypedBlood$Patient" := by decide +kernel
theorem T3_ty : ∀ f, f < 3 → parseFieldDescriptor (T3 f).2.2.1 = some (fty 3 f) := by decide +kernel
theorem T3_nm : ∀ a, a < 3 → ∀ b, b < 3 → a ≠ b → (T3 a).2.1 ≠ (T3 b).2.1 := by decide +kernel
theorem T3_dc : ∀ f, f < 3 → (T3 f).1 = "TypedBlood$Ranking" := by decide +kernel
theorem T4_ty : ∀ f, f < 26 → parseFieldDescriptor (T4 f).2.2.1 = some (fty 4 f) := by decide +kernel
theorem T4_nm : ∀ a, a < 26 → ∀ b, b < 26 → a ≠ b → (T4 a).2.1 ≠ (T4 b).2.1 := by decide +kernel
theorem T4_dc : ∀ f, f < 26 → (T4 f).1 = "TypedBloodModel" := by decide +kernel
/-- words that stay under warmer tables -/
def gw (w : Cond) : Bool := goodWord w || (match w with
  | .castable _ _ => true
  | .declares _ => true
  | .arrayOver (.object _) => true
  | _ => false)
def wd (w : Cond) : Prop := w ∈ lw_tbl ∧ gw w = true
theorem gw_at {w : Cond} (hg : gw w = true) {s U : State} {A A' : Array Value} (hW : s.WarmedH U.vm) (h : w.before A s = true) : w.before A' U = true := by
  by_cases hq : goodWord w = true
  · exact word_at hW (good_of_word hq) h
  · have hn : goodWord w = false := by simpa using hq
    unfold gw at hg
    rw [hn] at hg
    cases w with
    | castable C T => exact va_Nw.use rfl (va_Nw.warmC hW (va_Nw.of rfl h))
    | declares x => exact va_Nw.use rfl (va_Nw.warmD hW (va_Nw.of rfl h))
    | arrayOver ty =>
      cases ty with
      | object C => exact va_AO.use (va_AO.moved hW.alike (va_AO.of h))
      | _ => exact Bool.noConfusion hg
    | _ => exact Bool.noConfusion hg
def xN (x : Nat) : String := cond (Nat.beq x 0) "java/lang/IllegalArgumentException" (cond (Nat.beq x 1) "java/lang/IllegalStateException" (cond (Nat.beq x 2) "java/util/NoSuchElementException" (cond (Nat.beq x 3) "java/lang/UnsupportedOperationException" "java/lang/IndexOutOfBoundsException")))
def xI (x : Nat) : Nat := cond (Nat.beq x 0) 13 (cond (Nat.beq x 1) 19 (cond (Nat.beq x 2) 25 (cond (Nat.beq x 3) 31 85)))
theorem ev_five {ci : Nat} (q : ci < 5) : ci = 0 ∨ ci = 1 ∨ ci = 2 ∨ ci = 3 ∨ ci = 4 := by omega
/-! words of the tables, by their places -/
theorem ly_0_0 : u_lay "TypedBlood" T0 0 ∈ lw_tbl.filter goodWord := List.mem_filter.mpr ⟨List.mem_of_getElem? (i := 85) (by decide +kernel), by decide +kernel⟩
theorem ly_0_1 : u_lay "TypedBlood" T0 1 ∈ lw_tbl.filter goodWord := List.mem_filter.mpr ⟨List.mem_of_getElem? (i := 87) (by decide +kernel), by decide +kernel⟩
theorem ly_0_2 : u_lay "TypedBlood" T0 2 ∈ lw_tbl.filter goodWord := List.mem_filter.mpr ⟨List.mem_of_getElem? (i := 89) (by decide +kernel), by decide +kernel⟩
theorem ly_0_3 : u_lay "TypedBlood" T0 3 ∈ lw_tbl.filter goodWord := List.mem_filter.mpr ⟨List.mem_of_getElem? (i := 91) (by decide +kernel), by decide +kernel⟩
theorem ly_0_4 : u_lay "TypedBlood" T0 4 ∈ lw_tbl.filter goodWord := List.mem_filter.mpr ⟨List.mem_of_getElem? (i := 93) (by decide +kernel), by decide +kernel⟩
theorem ly_0_5 : u_lay "TypedBlood" T0 5 ∈ lw_tbl.filter goodWord := List.mem_filter.mpr ⟨List.mem_of_getElem? (i := 95) (by decide +kernel), by decide +kernel⟩
theorem ly_0_6 : u_lay "TypedBlood" T0 6 ∈ lw_tbl.filter goodWord := List.mem_filter.mpr ⟨List.mem_of_getElem? (i := 97) (by decide +kernel), by decide +kernel⟩
theorem ly_0_7 : u_lay "TypedBlood" T0 7 ∈ lw_tbl.filter goodWord := List.mem_filter.mpr ⟨List.mem_of_getElem? (i := 99) (by decide +kernel), by decide +kernel⟩
theorem T0_in : ∀ f, f < 8 → u_lay "TypedBlood" T0 f ∈ lw_tbl.filter goodWord := by
  intro f hf
  have e : f = 0 ∨ f = 1 ∨ f = 2 ∨ f = 3 ∨ f = 4 ∨ f = 5 ∨ f = 6 ∨ f = 7 := by omega
  rcases e with rfl | rfl | rfl | rfl | rfl | rfl | rfl | rfl
  · exact ly_0_0
  · exact ly_0_1
  · exact ly_0_2
  · exact ly_0_3
  · exact ly_0_4
  · exact ly_0_5
  · exact ly_0_6
  · exact ly_0_7
theorem ly_1_0 : u_lay "TypedBlood$Unit" T1 0 ∈ lw_tbl.filter goodWord := List.mem_filter.mpr ⟨List.mem_of_getElem? (i := 265) (by decide +kernel), by decide +kernel⟩
theorem ly_1_1 : u_lay "TypedBlood$Unit" T1 1 ∈ lw_tbl.filter goodWord := List.mem_filter.mpr ⟨List.mem_of_getElem? (i := 267) (by decide +kernel), by decide +kernel⟩
theorem ly_1_2 : u_lay "TypedBlood$Unit" T1 2 ∈ lw_tbl.filter goodWord := List.mem_filter.mpr ⟨List.mem_of_getElem? (i := 269) (by decide +kernel), by decide +kernel⟩
theorem ly_1_3 : u_lay "TypedBlood$Unit" T1 3 ∈ lw_tbl.filter goodWord := List.mem_filter.mpr ⟨List.mem_of_getElem? (i := 271) (by decide +kernel), by decide +kernel⟩
theorem ly_1_4 : u_lay "TypedBlood$Unit" T1 4 ∈ lw_tbl.filter goodWord := List.mem_filter.mpr ⟨List.mem_of_getElem? (i := 273) (by decide +kernel), by decide +kernel⟩
theorem ly_1_5 : u_lay "TypedBlood$Unit" T1 5 ∈ lw_tbl.filter goodWord := List.mem_filter.mpr ⟨List.mem_of_getElem? (i := 275) (by decide +kernel), by decide +kernel⟩
theorem ly_1_6 : u_lay "TypedBlood$Unit" T1 6 ∈ lw_tbl.filter goodWord := List.mem_filter.mpr ⟨List.mem_of_getElem? (i := 277) (by decide +kernel), by decide +kernel⟩
theorem ly_1_7 : u_lay "TypedBlood$Unit" T1 7 ∈ lw_tbl.filter goodWord := List.mem_filter.mpr ⟨List.mem_of_getElem? (i := 279) (by decide +kernel), by decide +kernel⟩
theorem ly_1_8 : u_lay "TypedBlood$Unit" T1 8 ∈ lw_tbl.filter goodWord := List.mem_filter.mpr ⟨List.mem_of_getElem? (i := 281) (by decide +kernel), by decide +kernel⟩
theorem ly_1_9 : u_lay "TypedBlood$Unit" T1 9 ∈ lw_tbl.filter goodWord := List.mem_filter.mpr ⟨List.mem_of_getElem? (i := 283) (by decide +kernel), by decide +kernel⟩
theorem ly_1_10 : u_lay "TypedBlood$Unit" T1 10 ∈ lw_tbl.filter goodWord := List.mem_filter.mpr ⟨List.mem_of_getElem? (i := 285) (by decide +kernel), by decide +kernel⟩
theorem ly_1_11 : u_lay "TypedBlood$Unit" T1 11 ∈ lw_tbl.filter goodWord := List.mem_filter.mpr ⟨List.mem_of_getElem? (i := 287) (by decide +kernel), by decide +kernel⟩
theorem ly_1_12 : u_lay "TypedBlood$Unit" T1 12 ∈ lw_tbl.filter goodWord := List.mem_filter.mpr ⟨List.mem_of_getElem? (i := 289) (by decide +kernel), by decide +kernel⟩
theorem ly_1_13 : u_lay "TypedBlood$Unit" T1 13 ∈ lw_tbl.filter goodWord := List.mem_filter.mpr ⟨List.mem_of_getElem? (i := 291) (by decide +kernel), by decide +kernel⟩
theorem ly_1_14 : u_lay "TypedBlood$Unit" T1 14 ∈ lw_tbl.filter goodWord := List.mem_filter.mpr ⟨List.mem_of_getElem? (i := 293) (by decide +kernel), by decide +kernel⟩
theorem T1_in : ∀ f, f < 15 → u_lay "TypedBlood$Unit" T1 f ∈ lw_tbl.filter goodWord := by
  intro f hf
  have e : f = 0 ∨ f = 1 ∨ f = 2 ∨ f = 3 ∨ f = 4 ∨ f = 5 ∨ f = 6 ∨ f = 7 ∨ f = 8 ∨ f = 9 ∨ f = 10 ∨ f = 11 ∨ f = 12 ∨ f = 13 ∨ f = 14 := by omega
  rcases e with rfl | rfl | rfl | rfl | rfl | rfl | rfl | rfl | rfl | rfl | rfl | rfl | rfl | rfl | rfl
  · exact ly_1_0
  · exact ly_1_1
  · exact ly_1_2
  · exact ly_1_3
  · exact ly_1_4
  · exact ly_1_5
  · exact ly_1_6
  · exact ly_1_7
  · exact ly_1_8
  · exact ly_1_9
  · exact ly_1_10
  · exact ly_1_11
  · exact ly_1_12
  · exact ly_1_13
  · exact ly_1_14
theorem ly_2_0 : u_lay "TypedBlood$Patient" T2 0 ∈ lw_tbl.filter goodWord := List.mem_filter.mpr ⟨List.mem_of_getElem? (i := 433) (by decide +kernel), by decide +kernel⟩
theorem ly_2_1 : u_lay "TypedBlood$Patient" T2 1 ∈ lw_tbl.filter goodWord := List.mem_filter.mpr ⟨List.mem_of_getElem? (i := 435) (by decide +kernel), by decide +kernel⟩
theorem ly_2_2 : u_lay "TypedBlood$Patient" T2 2 ∈ lw_tbl.filter goodWord := List.mem_filter.mpr ⟨List.mem_of_getElem? (i := 437) (by decide +kernel), by decide +kernel⟩
theorem ly_2_3 : u_lay "TypedBlood$Patient" T2 3 ∈ lw_tbl.filter goodWord := List.mem_filter.mpr ⟨List.mem_of_getElem? (i := 439) (by decide +kernel), by decide +kernel⟩
theorem ly_2_4 : u_lay "TypedBlood$Patient" T2 4 ∈ lw_tbl.filter goodWord := List.mem_filter.mpr ⟨List.mem_of_getElem? (i := 441) (by decide +kernel), by decide +kernel⟩
theorem ly_2_5 : u_lay "TypedBlood$Patient" T2 5 ∈ lw_tbl.filter goodWord := List.mem_filter.mpr ⟨List.mem_of_getElem? (i := 443) (by decide +kernel), by decide +kernel⟩
theorem ly_2_6 : u_lay "TypedBlood$Patient" T2 6 ∈ lw_tbl.filter goodWord := List.mem_filter.mpr ⟨List.mem_of_getElem? (i := 445) (by decide +kernel), by decide +kernel⟩
theorem T2_in : ∀ f, f < 7 → u_lay "TypedBlood$Patient" T2 f ∈ lw_tbl.filter goodWord := by
  intro f hf
  have e : f = 0 ∨ f = 1 ∨ f = 2 ∨ f = 3 ∨ f = 4 ∨ f = 5 ∨ f = 6 := by omega
  rcases e with rfl | rfl | rfl | rfl | rfl | rfl | rfl
  · exact ly_2_0
  · exact ly_2_1
  · exact ly_2_2
  · exact ly_2_3
  · exact ly_2_4
  · exact ly_2_5
  · exact ly_2_6
theorem ly_3_0 : u_lay "TypedBlood$Ranking" T3 0 ∈ lw_tbl.filter goodWord := List.mem_filter.mpr ⟨List.mem_of_getElem? (i := 69) (by decide +kernel), by decide +kernel⟩
theorem ly_3_1 : u_lay "TypedBlood$Ranking" T3 1 ∈ lw_tbl.filter goodWord := List.mem_filter.mpr ⟨List.mem_of_getElem? (i := 71) (by decide +kernel), by decide +kernel⟩
theorem ly_3_2 : u_lay "TypedBlood$Ranking" T3 2 ∈ lw_tbl.filter goodWord := List.mem_filter.mpr ⟨List.mem_of_getElem? (i := 73) (by decide +kernel), by decide +kernel⟩
theorem T3_in : ∀ f, f < 3 → u_lay "TypedBlood$Ranking" T3 f ∈ lw_tbl.filter goodWord := by
  intro f hf
  have e : f = 0 ∨ f = 1 ∨ f = 2 := by omega
  rcases e with rfl | rfl | rfl
  · exact ly_3_0
  · exact ly_3_1
  · exact ly_3_2
theorem ly_4_0 : u_lay "TypedBloodModel" T4 0 ∈ lw_tbl.filter goodWord := List.mem_filter.mpr ⟨List.mem_of_getElem? (i := 782) (by decide +kernel), by decide +kernel⟩
theorem ly_4_1 : u_lay "TypedBloodModel" T4 1 ∈ lw_tbl.filter goodWord := List.mem_filter.mpr ⟨List.mem_of_getElem? (i := 784) (by decide +kernel), by decide +kernel⟩
theorem ly_4_2 : u_lay "TypedBloodModel" T4 2 ∈ lw_tbl.filter goodWord := List.mem_filter.mpr ⟨List.mem_of_getElem? (i := 786) (by decide +kernel), by decide +kernel⟩
theorem ly_4_3 : u_lay "TypedBloodModel" T4 3 ∈ lw_tbl.filter goodWord := List.mem_filter.mpr ⟨List.mem_of_getElem? (i := 788) (by decide +kernel), by decide +kernel⟩
theorem ly_4_4 : u_lay "TypedBloodModel" T4 4 ∈ lw_tbl.filter goodWord := List.mem_filter.mpr ⟨List.mem_of_getElem? (i := 790) (by decide +kernel), by decide +kernel⟩
theorem ly_4_5 : u_lay "TypedBloodModel" T4 5 ∈ lw_tbl.filter goodWord := List.mem_filter.mpr ⟨List.mem_of_getElem? (i := 792) (by decide +kernel), by decide +kernel⟩
theorem ly_4_6 : u_lay "TypedBloodModel" T4 6 ∈ lw_tbl.filter goodWord := List.mem_filter.mpr ⟨List.mem_of_getElem? (i := 794) (by decide +kernel), by decide +kernel⟩
theorem ly_4_7 : u_lay "TypedBloodModel" T4 7 ∈ lw_tbl.filter goodWord := List.mem_filter.mpr ⟨List.mem_of_getElem? (i := 796) (by decide +kernel), by decide +kernel⟩
theorem ly_4_8 : u_lay "TypedBloodModel" T4 8 ∈ lw_tbl.filter goodWord := List.mem_filter.mpr ⟨List.mem_of_getElem? (i := 798) (by decide +kernel), by decide +kernel⟩
theorem ly_4_9 : u_lay "TypedBloodModel" T4 9 ∈ lw_tbl.filter goodWord := List.mem_filter.mpr ⟨List.mem_of_getElem? (i := 800) (by decide +kernel), by decide +kernel⟩
theorem ly_4_10 : u_lay "TypedBloodModel" T4 10 ∈ lw_tbl.filter goodWord := List.mem_filter.mpr ⟨List.mem_of_getElem? (i := 802) (by decide +kernel), by decide +kernel⟩
theorem ly_4_11 : u_lay "TypedBloodModel" T4 11 ∈ lw_tbl.filter goodWord := List.mem_filter.mpr ⟨List.mem_of_getElem? (i := 804) (by decide +kernel), by decide +kernel⟩
theorem ly_4_12 : u_lay "TypedBloodModel" T4 12 ∈ lw_tbl.filter goodWord := List.mem_filter.mpr ⟨List.mem_of_getElem? (i := 806) (by decide +kernel), by decide +kernel⟩
theorem ly_4_13 : u_lay "TypedBloodModel" T4 13 ∈ lw_tbl.filter goodWord := List.mem_filter.mpr ⟨List.mem_of_getElem? (i := 808) (by decide +kernel), by decide +kernel⟩
theorem ly_4_14 : u_lay "TypedBloodModel" T4 14 ∈ lw_tbl.filter goodWord := List.mem_filter.mpr ⟨List.mem_of_getElem? (i := 810) (by decide +kernel), by decide +kernel⟩
theorem ly_4_15 : u_lay "TypedBloodModel" T4 15 ∈ lw_tbl.filter goodWord := List.mem_filter.mpr ⟨List.mem_of_getElem? (i := 812) (by decide +kernel), by decide +kernel⟩
theorem ly_4_16 : u_lay "TypedBloodModel" T4 16 ∈ lw_tbl.filter goodWord := List.mem_filter.mpr ⟨List.mem_of_getElem? (i := 814) (by decide +kernel), by decide +kernel⟩
theorem ly_4_17 : u_lay "TypedBloodModel" T4 17 ∈ lw_tbl.filter goodWord := List.mem_filter.mpr ⟨List.mem_of_getElem? (i := 816) (by decide +kernel), by decide +kernel⟩
theorem ly_4_18 : u_lay "TypedBloodModel" T4 18 ∈ lw_tbl.filter goodWord := List.mem_filter.mpr ⟨List.mem_of_getElem? (i := 818) (by decide +kernel), by decide +kernel⟩
theorem ly_4_19 : u_lay "TypedBloodModel" T4 19 ∈ lw_tbl.filter goodWord := List.mem_filter.mpr ⟨List.mem_of_getElem? (i := 820) (by decide +kernel), by decide +kernel⟩
theorem ly_4_20 : u_lay "TypedBloodModel" T4 20 ∈ lw_tbl.filter goodWord := List.mem_filter.mpr ⟨List.mem_of_getElem? (i := 822) (by decide +kernel), by decide +kernel⟩
theorem ly_4_21 : u_lay "TypedBloodModel" T4 21 ∈ lw_tbl.filter goodWord := List.mem_filter.mpr ⟨List.mem_of_getElem? (i := 824) (by decide +kernel), by decide +kernel⟩
theorem ly_4_22 : u_lay "TypedBloodModel" T4 22 ∈ lw_tbl.filter goodWord := List.mem_filter.mpr ⟨List.mem_of_getElem? (i := 826) (by decide +kernel), by decide +kernel⟩
theorem ly_4_23 : u_lay "TypedBloodModel" T4 23 ∈ lw_tbl.filter goodWord := List.mem_filter.mpr ⟨List.mem_of_getElem? (i := 828) (by decide +kernel), by decide +kernel⟩
theorem ly_4_24 : u_lay "TypedBloodModel" T4 24 ∈ lw_tbl.filter goodWord := List.mem_filter.mpr ⟨List.mem_of_getElem? (i := 830) (by decide +kernel), by decide +kernel⟩
theorem ly_4_25 : u_lay "TypedBloodModel" T4 25 ∈ lw_tbl.filter goodWord := List.mem_filter.mpr ⟨List.mem_of_getElem? (i := 832) (by decide +kernel), by decide +kernel⟩
theorem T4_in : ∀ f, f < 26 → u_lay "TypedBloodModel" T4 f ∈ lw_tbl.filter goodWord := by
  intro f hf
  have e : f = 0 ∨ f = 1 ∨ f = 2 ∨ f = 3 ∨ f = 4 ∨ f = 5 ∨ f = 6 ∨ f = 7 ∨ f = 8 ∨ f = 9 ∨ f = 10 ∨ f = 11 ∨ f = 12 ∨ f = 13 ∨ f = 14 ∨ f = 15 ∨ f = 16 ∨ f = 17 ∨ f = 18 ∨ f = 19 ∨ f = 20 ∨ f = 21 ∨ f = 22 ∨ f = 23 ∨ f = 24 ∨ f = 25 := by omega
  rcases e with rfl | rfl | rfl | rfl | rfl | rfl | rfl | rfl | rfl | rfl | rfl | rfl | rfl | rfl | rfl | rfl | rfl | rfl | rfl | rfl | rfl | rfl | rfl | rfl | rfl | rfl
  · exact ly_4_0
  · exact ly_4_1
  · exact ly_4_2
  · exact ly_4_3
  · exact ly_4_4
  · exact ly_4_5
  · exact ly_4_6
  · exact ly_4_7
  · exact ly_4_8
  · exact ly_4_9
  · exact ly_4_10
  · exact ly_4_11
  · exact ly_4_12
  · exact ly_4_13
  · exact ly_4_14
  · exact ly_4_15
  · exact ly_4_16
  · exact ly_4_17
  · exact ly_4_18
  · exact ly_4_19
  · exact ly_4_20
  · exact ly_4_21
  · exact ly_4_22
  · exact ly_4_23
  · exact ly_4_24
  · exact ly_4_25
end
section
/-! words of the tables, by their places (by program) -/
theorem ww_1 : wd (Cond.selects "TypedBlood" ⟨"TypedBlood", "hasRoomFor", "(I)Z"⟩ ⟨"TypedBlood", "hasRoomFor", "(I)Z"⟩) := ⟨List.mem_of_getElem? (i := 1) (by decide +kernel), by decide +kernel⟩
theorem ww_2 : wd (Cond.selects "TypedBlood" ⟨"TypedBlood", "keep", "(LTypedBlood$Unit;)I"⟩ ⟨"TypedBlood", "keep", "(LTypedBlood$Unit;)I"⟩) := ⟨List.mem_of_getElem? (i := 2) (by decide +kernel), by decide +kernel⟩
theorem ww_3 : wd (Cond.selects "TypedBlood" ⟨"TypedBlood", "unitAt", "(I)LTypedBlood$Unit;"⟩ ⟨"TypedBlood", "unitAt", "(I)LTypedBlood$Unit;"⟩) := ⟨List.mem_of_getElem? (i := 3) (by decide +kernel), by decide +kernel⟩
theorem ww_4 : wd (Cond.selects "TypedBlood" ⟨"TypedBlood", "isReady", "(LTypedBlood$Unit;)Z"⟩ ⟨"TypedBlood", "isReady", "(LTypedBlood$Unit;)Z"⟩) := ⟨List.mem_of_getElem? (i := 4) (by decide +kernel), by decide +kernel⟩
theorem ww_5 : wd (Cond.selects "TypedBlood" ⟨"TypedBlood", "isUsable", "(LTypedBlood$Unit;)Z"⟩ ⟨"TypedBlood", "isUsable", "(LTypedBlood$Unit;)Z"⟩) := ⟨List.mem_of_getElem? (i := 5) (by decide +kernel), by decide +kernel⟩
theorem ww_6 : wd (Cond.selects "TypedBlood" ⟨"TypedBlood", "keepSplitProducts", "(LTypedBlood$Unit;)I"⟩ ⟨"TypedBlood", "keepSplitProducts", "(LTypedBlood$Unit;)I"⟩) := ⟨List.mem_of_getElem? (i := 6) (by decide +kernel), by decide +kernel⟩
theorem ww_7 : wd (Cond.selects "TypedBlood" ⟨"TypedBlood", "keepProduct", "(LTypedBlood$Unit;III)I"⟩ ⟨"TypedBlood", "keepProduct", "(LTypedBlood$Unit;III)I"⟩) := ⟨List.mem_of_getElem? (i := 7) (by decide +kernel), by decide +kernel⟩
theorem ww_8 : wd (Cond.selects "TypedBlood" ⟨"TypedBlood", "keepPooled", "(LTypedBlood$Unit;LTypedBlood$Unit;)I"⟩ ⟨"TypedBlood", "keepPooled", "(LTypedBlood$Unit;LTypedBlood$Unit;)I"⟩) := ⟨List.mem_of_getElem? (i := 8) (by decide +kernel), by decide +kernel⟩
theorem ww_9 : wd (Cond.selects "TypedBlood" ⟨"TypedBlood", "patientAt", "(I)LTypedBlood$Patient;"⟩ ⟨"TypedBlood", "patientAt", "(I)LTypedBlood$Patient;"⟩) := ⟨List.mem_of_getElem? (i := 9) (by decide +kernel), by decide +kernel⟩
theorem ww_10 : wd (Cond.selects "TypedBlood" ⟨"TypedBlood", "isCleared", "(LTypedBlood$Patient;LTypedBlood$Unit;I)Z"⟩ ⟨"TypedBlood", "isCleared", "(LTypedBlood$Patient;LTypedBlood$Unit;I)Z"⟩) := ⟨List.mem_of_getElem? (i := 10) (by decide +kernel), by decide +kernel⟩
theorem ww_11 : wd (Cond.selects "TypedBlood" ⟨"TypedBlood", "mayLeaveFor", "(ILTypedBlood$Unit;)Z"⟩ ⟨"TypedBlood", "mayLeaveFor", "(ILTypedBlood$Unit;)Z"⟩) := ⟨List.mem_of_getElem? (i := 11) (by decide +kernel), by decide +kernel⟩
theorem ww_12 : wd (Cond.selects "TypedBlood" ⟨"TypedBlood", "handOver", "(LTypedBlood$Unit;II)I"⟩ ⟨"TypedBlood", "handOver", "(LTypedBlood$Unit;II)I"⟩) := ⟨List.mem_of_getElem? (i := 12) (by decide +kernel), by decide +kernel⟩
theorem ww_13 : wd (Cond.selects "TypedBlood" ⟨"TypedBlood", "firstIssue", "(II)I"⟩ ⟨"TypedBlood", "firstIssue", "(II)I"⟩) := ⟨List.mem_of_getElem? (i := 13) (by decide +kernel), by decide +kernel⟩
theorem ww_14 : wd (Cond.selects "TypedBloodModel" ⟨"TypedBloodModel", "refused", "(ZZZZ)Z"⟩ ⟨"TypedBloodModel", "refused", "(ZZZZ)Z"⟩) := ⟨List.mem_of_getElem? (i := 14) (by decide +kernel), by decide +kernel⟩
theorem ww_15 : wd (Cond.selects "TypedBloodModel" ⟨"TypedBloodModel", "add", "(IIII)I"⟩ ⟨"TypedBloodModel", "add", "(IIII)I"⟩) := ⟨List.mem_of_getElem? (i := 15) (by decide +kernel), by decide +kernel⟩
theorem ww_16 : wd (Cond.selects "TypedBloodModel" ⟨"TypedBloodModel", "isUnit", "(I)Z"⟩ ⟨"TypedBloodModel", "isUnit", "(I)Z"⟩) := ⟨List.mem_of_getElem? (i := 16) (by decide +kernel), by decide +kernel⟩
theorem ww_17 : wd (Cond.selects "TypedBloodModel" ⟨"TypedBloodModel", "stateOf", "(I)I"⟩ ⟨"TypedBloodModel", "stateOf", "(I)I"⟩) := ⟨List.mem_of_getElem? (i := 17) (by decide +kernel), by decide +kernel⟩
theorem ww_18 : wd (Cond.selects "TypedBloodModel" ⟨"TypedBloodModel", "isReady", "(I)Z"⟩ ⟨"TypedBloodModel", "isReady", "(I)Z"⟩) := ⟨List.mem_of_getElem? (i := 18) (by decide +kernel), by decide +kernel⟩
theorem ww_19 : wd (Cond.selects "TypedBloodModel" ⟨"TypedBloodModel", "isExpired", "(I)Z"⟩ ⟨"TypedBloodModel", "isExpired", "(I)Z"⟩) := ⟨List.mem_of_getElem? (i := 19) (by decide +kernel), by decide +kernel⟩
theorem ww_20 : wd (Cond.selects "TypedBloodModel" ⟨"TypedBloodModel", "isBarred", "(I)Z"⟩ ⟨"TypedBloodModel", "isBarred", "(I)Z"⟩) := ⟨List.mem_of_getElem? (i := 20) (by decide +kernel), by decide +kernel⟩
theorem ww_21 : wd (Cond.selects "TypedBloodModel" ⟨"TypedBloodModel", "isPatient", "(I)Z"⟩ ⟨"TypedBloodModel", "isPatient", "(I)Z"⟩) := ⟨List.mem_of_getElem? (i := 21) (by decide +kernel), by decide +kernel⟩
theorem ww_22 : wd (Cond.selects "TypedBloodModel" ⟨"TypedBloodModel", "reasonFor", "(II)I"⟩ ⟨"TypedBloodModel", "reasonFor", "(II)I"⟩) := ⟨List.mem_of_getElem? (i := 22) (by decide +kernel), by decide +kernel⟩
theorem ww_23 : wd (Cond.selects "TypedBloodModel" ⟨"TypedBloodModel", "isMatched", "(II)Z"⟩ ⟨"TypedBloodModel", "isMatched", "(II)Z"⟩) := ⟨List.mem_of_getElem? (i := 23) (by decide +kernel), by decide +kernel⟩
theorem ww_24 : wd (Cond.selects "TypedBloodModel" ⟨"TypedBloodModel", "mayGo", "(II)Z"⟩ ⟨"TypedBloodModel", "mayGo", "(II)Z"⟩) := ⟨List.mem_of_getElem? (i := 24) (by decide +kernel), by decide +kernel⟩
theorem ww_25 : wd (Cond.selects "TypedBloodModel" ⟨"TypedBloodModel", "go", "(III)I"⟩ ⟨"TypedBloodModel", "go", "(III)I"⟩) := ⟨List.mem_of_getElem? (i := 25) (by decide +kernel), by decide +kernel⟩
theorem ww_26 : wd (Cond.selects "TypedBloodModel" ⟨"TypedBloodModel", "field", "(II)I"⟩ ⟨"TypedBloodModel", "field", "(II)I"⟩) := ⟨List.mem_of_getElem? (i := 26) (by decide +kernel), by decide +kernel⟩
theorem ww_27 : wd (Cond.selects "TypedBloodModel" ⟨"TypedBloodModel", "isOffered", "(III)Z"⟩ ⟨"TypedBloodModel", "isOffered", "(III)Z"⟩) := ⟨List.mem_of_getElem? (i := 27) (by decide +kernel), by decide +kernel⟩
theorem ww_28 : wd (Cond.selects "TypedBloodModel" ⟨"TypedBloodModel", "isBefore", "(II)Z"⟩ ⟨"TypedBloodModel", "isBefore", "(II)Z"⟩) := ⟨List.mem_of_getElem? (i := 28) (by decide +kernel), by decide +kernel⟩
theorem ww_29 : wd (Cond.selects "TypedBloodModel" ⟨"TypedBloodModel", "expiresIn", "(II)Z"⟩ ⟨"TypedBloodModel", "expiresIn", "(II)Z"⟩) := ⟨List.mem_of_getElem? (i := 29) (by decide +kernel), by decide +kernel⟩
theorem ww_30 : wd (Cond.selects "TypedBloodModel" ⟨"TypedBloodModel", "firstIssue", "(II)I"⟩ ⟨"TypedBloodModel", "firstIssue", "(II)I"⟩) := ⟨List.mem_of_getElem? (i := 30) (by decide +kernel), by decide +kernel⟩
theorem ww_31 : wd (Jvm.Cond.initialized "TypedBloodLaw") := ⟨List.mem_of_getElem? (i := 31) (by decide +kernel), by decide +kernel⟩
theorem ww_32 : wd (Jvm.Cond.initialized "TypedBlood") := ⟨List.mem_of_getElem? (i := 32) (by decide +kernel), by decide +kernel⟩
theorem ww_33 : wd (Jvm.Cond.initialized "TypedBlood$Ranking") := ⟨List.mem_of_getElem? (i := 33) (by decide +kernel), by decide +kernel⟩
theorem ww_34 : wd (Jvm.Cond.initialized "TypedBloodModel") := ⟨List.mem_of_getElem? (i := 34) (by decide +kernel), by decide +kernel⟩
theorem ww_38 : wd (Jvm.Cond.initialized "java/lang/IllegalArgumentException") := ⟨List.mem_of_getElem? (i := 38) (by decide +kernel), by decide +kernel⟩
theorem ww_39 : wd (Jvm.Cond.initialized "java/lang/IllegalStateException") := ⟨List.mem_of_getElem? (i := 39) (by decide +kernel), by decide +kernel⟩
theorem ww_40 : wd (Jvm.Cond.initialized "TypedBlood$Unit") := ⟨List.mem_of_getElem? (i := 40) (by decide +kernel), by decide +kernel⟩
theorem ww_41 : wd (Jvm.Cond.initialized "java/util/NoSuchElementException") := ⟨List.mem_of_getElem? (i := 41) (by decide +kernel), by decide +kernel⟩
theorem ww_42 : wd (Jvm.Cond.initialized "java/lang/UnsupportedOperationException") := ⟨List.mem_of_getElem? (i := 42) (by decide +kernel), by decide +kernel⟩
theorem ww_43 : wd (Jvm.Cond.initialized "java/lang/Math") := ⟨List.mem_of_getElem? (i := 43) (by decide +kernel), by decide +kernel⟩
theorem ww_44 : wd (Jvm.Cond.initialized "TypedBlood$Patient") := ⟨List.mem_of_getElem? (i := 44) (by decide +kernel), by decide +kernel⟩
theorem ww_45 : wd (Jvm.Cond.initialized "java/lang/Integer") := ⟨List.mem_of_getElem? (i := 45) (by decide +kernel), by decide +kernel⟩
theorem ww_46 : wd (Jvm.Cond.initialized "TypedBlood$Rules") := ⟨List.mem_of_getElem? (i := 46) (by decide +kernel), by decide +kernel⟩
theorem ww_47 : wd (Jvm.Cond.initialized "java/lang/IndexOutOfBoundsException") := ⟨List.mem_of_getElem? (i := 47) (by decide +kernel), by decide +kernel⟩
theorem ww_48 : wd (Jvm.Cond.classLink "TypedBloodLaw" (8 : Nat) "TypedBlood") := ⟨List.mem_of_getElem? (i := 48) (by decide +kernel), by decide +kernel⟩
theorem ww_49 : wd (Jvm.Cond.instantiable "TypedBlood" (8 : Nat)) := ⟨List.mem_of_getElem? (i := 49) (by decide +kernel), by decide +kernel⟩
theorem ww_50 : wd (Jvm.Cond.methodLink "TypedBloodLaw" (114 : Nat) ({ cls := "TypedBlood", name := "<init>", desc := "()V" } : Jvm.MethodName)) := ⟨List.mem_of_getElem? (i := 50) (by decide +kernel), by decide +kernel⟩
theorem ww_51 : wd (Jvm.Cond.instanceMethod ({ cls := "TypedBlood", name := "<init>", desc := "()V" } : Jvm.MethodName)) := ⟨List.mem_of_getElem? (i := 51) (by decide +kernel), by decide +kernel⟩
theorem ww_52 : wd (Jvm.Cond.code ({ cls := "TypedBlood", name := "<init>", desc := "()V" } : Jvm.MethodName) prog_1_method_1_code (1 : Nat) (Option.none : Option Jvm.ClassFile.FieldType)) := ⟨List.mem_of_getElem? (i := 52) (by decide +kernel), by decide +kernel⟩
theorem ww_53 : wd (Jvm.Cond.methodLink "TypedBlood" (1 : Nat) ({ cls := "java/lang/Object", name := "<init>", desc := "()V" } : Jvm.MethodName)) := ⟨List.mem_of_getElem? (i := 53) (by decide +kernel), by decide +kernel⟩
theorem ww_54 : wd (Jvm.Cond.instanceMethod ({ cls := "java/lang/Object", name := "<init>", desc := "()V" } : Jvm.MethodName)) := ⟨List.mem_of_getElem? (i := 54) (by decide +kernel), by decide +kernel⟩
theorem ww_55 : wd (Jvm.Cond.code ({ cls := "java/lang/Object", name := "<init>", desc := "()V" } : Jvm.MethodName) object_method_1_code (1 : Nat) (Option.none : Option Jvm.ClassFile.FieldType)) := ⟨List.mem_of_getElem? (i := 55) (by decide +kernel), by decide +kernel⟩
theorem ww_56 : wd (Jvm.Cond.classLink "TypedBlood" (9 : Nat) "TypedBlood$Unit") := ⟨List.mem_of_getElem? (i := 56) (by decide +kernel), by decide +kernel⟩
theorem ww_57 : wd (Jvm.Cond.arrayOver (Jvm.ClassFile.FieldType.object "TypedBlood$Unit")) := ⟨List.mem_of_getElem? (i := 57) (by decide +kernel), by decide +kernel⟩
theorem ww_58 : wd (Jvm.Cond.classLink "TypedBlood" (15 : Nat) "TypedBlood$Patient") := ⟨List.mem_of_getElem? (i := 58) (by decide +kernel), by decide +kernel⟩
theorem ww_59 : wd (Jvm.Cond.arrayOver (Jvm.ClassFile.FieldType.object "TypedBlood$Patient")) := ⟨List.mem_of_getElem? (i := 59) (by decide +kernel), by decide +kernel⟩
theorem ww_60 : wd (Jvm.Cond.classLink "TypedBlood" (21 : Nat) "TypedBlood$Ranking") := ⟨List.mem_of_getElem? (i := 60) (by decide +kernel), by decide +kernel⟩
theorem ww_61 : wd (Jvm.Cond.instantiable "TypedBlood$Ranking" (3 : Nat)) := ⟨List.mem_of_getElem? (i := 61) (by decide +kernel), by decide +kernel⟩
theorem ww_62 : wd (Jvm.Cond.methodLink "TypedBlood" (23 : Nat) ({ cls := "TypedBlood$Ranking", name := "<init>", desc := "(I)V" } : Jvm.MethodName)) := ⟨List.mem_of_getElem? (i := 62) (by decide +kernel), by decide +kernel⟩
theorem ww_63 : wd (Jvm.Cond.instanceMethod ({ cls := "TypedBlood$Ranking", name := "<init>", desc := "(I)V" } : Jvm.MethodName)) := ⟨List.mem_of_getElem? (i := 63) (by decide +kernel), by decide +kernel⟩
theorem ww_64 : wd (Jvm.Cond.code ({ cls := "TypedBlood$Ranking", name := "<init>", desc := "(I)V" } : Jvm.MethodName) prog_3_method_1_code (2 : Nat) (Option.none : Option Jvm.ClassFile.FieldType)) := ⟨List.mem_of_getElem? (i := 64) (by decide +kernel), by decide +kernel⟩
theorem ww_65 : wd (Jvm.Cond.methodLink "TypedBlood$Ranking" (3 : Nat) ({ cls := "java/lang/Object", name := "<init>", desc := "()V" } : Jvm.MethodName)) := ⟨List.mem_of_getElem? (i := 65) (by decide +kernel), by decide +kernel⟩
theorem ww_66 : wd (Jvm.Cond.fieldLink "TypedBlood$Ranking" (9 : Nat) "TypedBlood$Ranking" "numbers" "[I") := ⟨List.mem_of_getElem? (i := 66) (by decide +kernel), by decide +kernel⟩
theorem ww_67 : wd (Jvm.Cond.fieldLink "TypedBlood$Ranking" (15 : Nat) "TypedBlood$Ranking" "keys" "[I") := ⟨List.mem_of_getElem? (i := 67) (by decide +kernel), by decide +kernel⟩
theorem ww_68 : wd (Jvm.Cond.fieldLink "TypedBlood$Ranking" (18 : Nat) "TypedBlood$Ranking" "size" "I") := ⟨List.mem_of_getElem? (i := 68) (by decide +kernel), by decide +kernel⟩
theorem ww_76 : wd (Jvm.Cond.arrayClass Jvm.ClassFile.FieldType.int) := ⟨List.mem_of_getElem? (i := 76) (by decide +kernel), by decide +kernel⟩
theorem ww_77 : wd (Jvm.Cond.fieldLink "TypedBlood" (11 : Nat) "TypedBlood" "units" "[LTypedBlood$Unit;") := ⟨List.mem_of_getElem? (i := 77) (by decide +kernel), by decide +kernel⟩
theorem ww_78 : wd (Jvm.Cond.fieldLink "TypedBlood" (17 : Nat) "TypedBlood" "patients" "[LTypedBlood$Patient;") := ⟨List.mem_of_getElem? (i := 78) (by decide +kernel), by decide +kernel⟩
theorem ww_79 : wd (Jvm.Cond.fieldLink "TypedBlood" (26 : Nat) "TypedBlood" "ranking" "LTypedBlood$Ranking;") := ⟨List.mem_of_getElem? (i := 79) (by decide +kernel), by decide +kernel⟩
theorem ww_80 : wd (Jvm.Cond.fieldLink "TypedBlood" (42 : Nat) "TypedBlood" "unitCount" "I") := ⟨List.mem_of_getElem? (i := 80) (by decide +kernel), by decide +kernel⟩
theorem ww_81 : wd (Jvm.Cond.fieldLink "TypedBlood" (140 : Nat) "TypedBlood" "patientCount" "I") := ⟨List.mem_of_getElem? (i := 81) (by decide +kernel), by decide +kernel⟩
theorem ww_82 : wd (Jvm.Cond.fieldLink "TypedBlood" (38 : Nat) "TypedBlood" "now" "I") := ⟨List.mem_of_getElem? (i := 82) (by decide +kernel), by decide +kernel⟩
theorem ww_83 : wd (Jvm.Cond.fieldLink "TypedBlood" (257 : Nat) "TypedBlood" "quarantined" "I") := ⟨List.mem_of_getElem? (i := 83) (by decide +kernel), by decide +kernel⟩
theorem ww_84 : wd (Jvm.Cond.fieldLink "TypedBlood" (328 : Nat) "TypedBlood" "issuesSoFar" "I") := ⟨List.mem_of_getElem? (i := 84) (by decide +kernel), by decide +kernel⟩
theorem ww_102 : wd (Jvm.Cond.methodLink "TypedBloodLaw" (118 : Nat) ({ cls := "TypedBloodLaw", name := "pass", desc := "(LTypedBlood;I[J)I" } : Jvm.MethodName)) := ⟨List.mem_of_getElem? (i := 102) (by decide +kernel), by decide +kernel⟩
theorem ww_103 : wd (Jvm.Cond.static ({ cls := "TypedBloodLaw", name := "pass", desc := "(LTypedBlood;I[J)I" } : Jvm.MethodName)) := ⟨List.mem_of_getElem? (i := 103) (by decide +kernel), by decide +kernel⟩
theorem ww_104 : wd (Jvm.Cond.codeWith ({ cls := "TypedBloodLaw", name := "pass", desc := "(LTypedBlood;I[J)I" } : Jvm.MethodName) method_3_code (4 : Nat) (Option.some Jvm.ClassFile.FieldType.int) [((0 : Nat), (9 : Nat), (12 : Nat), (13 : Nat))]) := ⟨List.mem_of_getElem? (i := 104) (by decide +kernel), by decide +kernel⟩
theorem ww_105 : wd (Jvm.Cond.classLink "TypedBloodLaw" (13 : Nat) "java/lang/IllegalArgumentException") := ⟨List.mem_of_getElem? (i := 105) (by decide +kernel), by decide +kernel⟩
theorem ww_106 : wd (Jvm.Cond.methodLink "TypedBloodLaw" (7 : Nat) ({ cls := "TypedBlood", name := "pass", desc := "(I)I" } : Jvm.MethodName)) := ⟨List.mem_of_getElem? (i := 106) (by decide +kernel), by decide +kernel⟩
theorem ww_107 : wd (Jvm.Cond.instanceMethod ({ cls := "TypedBlood", name := "pass", desc := "(I)I" } : Jvm.MethodName)) := ⟨List.mem_of_getElem? (i := 107) (by decide +kernel), by decide +kernel⟩
theorem ww_108 : wd (Jvm.Cond.selects "TypedBlood" ({ cls := "TypedBlood", name := "pass", desc := "(I)I" } : Jvm.MethodName) ({ cls := "TypedBlood", name := "pass", desc := "(I)I" } : Jvm.MethodName)) := ⟨List.mem_of_getElem? (i := 108) (by decide +kernel), by decide +kernel⟩
theorem ww_109 : wd (Jvm.Cond.code ({ cls := "TypedBlood", name := "pass", desc := "(I)I" } : Jvm.MethodName) prog_1_method_2_code (3 : Nat) (Option.some Jvm.ClassFile.FieldType.int)) := ⟨List.mem_of_getElem? (i := 109) (by decide +kernel), by decide +kernel⟩
theorem ww_110 : wd (Jvm.Cond.constant "TypedBlood" (30 : Nat) (50000 : Int32)) := ⟨List.mem_of_getElem? (i := 110) (by decide +kernel), by decide +kernel⟩
theorem ww_111 : wd (Jvm.Cond.classLink "TypedBlood" (31 : Nat) "java/lang/IllegalArgumentException") := ⟨List.mem_of_getElem? (i := 111) (by decide +kernel), by decide +kernel⟩
theorem ww_113 : wd (Jvm.Cond.castable "java/lang/IllegalArgumentException" "java/lang/IllegalArgumentException") := ⟨List.mem_of_getElem? (i := 113) (by decide +kernel), by decide +kernel⟩
theorem ww_181 : wd (Jvm.Cond.methodLink "TypedBlood" (45 : Nat) ({ cls := "TypedBlood$Unit", name := "endReservationWhenOver", desc := "(I)V" } : Jvm.MethodName)) := ⟨List.mem_of_getElem? (i := 181) (by decide +kernel), by decide +kernel⟩
theorem ww_182 : wd (Jvm.Cond.instanceMethod ({ cls := "TypedBlood$Unit", name := "endReservationWhenOver", desc := "(I)V" } : Jvm.MethodName)) := ⟨List.mem_of_getElem? (i := 182) (by decide +kernel), by decide +kernel⟩
theorem ww_183 : wd (Jvm.Cond.selects "TypedBlood$Unit" ({ cls := "TypedBlood$Unit", name := "endReservationWhenOver", desc := "(I)V" } : Jvm.MethodName) ({ cls := "TypedBlood$Unit", name := "endReservationWhenOver", desc := "(I)V" } : Jvm.MethodName)) := ⟨List.mem_of_getElem? (i := 183) (by decide +kernel), by decide +kernel⟩
theorem ww_184 : wd (Jvm.Cond.code ({ cls := "TypedBlood$Unit", name := "endReservationWhenOver", desc := "(I)V" } : Jvm.MethodName) prog_5_method_10_code (2 : Nat) (Option.none : Option Jvm.ClassFile.FieldType)) := ⟨List.mem_of_getElem? (i := 184) (by decide +kernel), by decide +kernel⟩
theorem ww_185 : wd (Jvm.Cond.methodLink "TypedBlood$Unit" (45 : Nat) ({ cls := "TypedBlood$Unit", name := "store", desc := "()V" } : Jvm.MethodName)) := ⟨List.mem_of_getElem? (i := 185) (by decide +kernel), by decide +kernel⟩
theorem ww_186 : wd (Jvm.Cond.instanceMethod ({ cls := "TypedBlood$Unit", name := "store", desc := "()V" } : Jvm.MethodName)) := ⟨List.mem_of_getElem? (i := 186) (by decide +kernel), by decide +kernel⟩
theorem ww_187 : wd (Jvm.Cond.selects "TypedBlood$Unit" ({ cls := "TypedBlood$Unit", name := "store", desc := "()V" } : Jvm.MethodName) ({ cls := "TypedBlood$Unit", name := "store", desc := "()V" } : Jvm.MethodName)) := ⟨List.mem_of_getElem? (i := 187) (by decide +kernel), by decide +kernel⟩
theorem ww_188 : wd (Jvm.Cond.code ({ cls := "TypedBlood$Unit", name := "store", desc := "()V" } : Jvm.MethodName) prog_5_method_11_code (1 : Nat) (Option.none : Option Jvm.ClassFile.FieldType)) := ⟨List.mem_of_getElem? (i := 188) (by decide +kernel), by decide +kernel⟩
theorem ww_189 : wd (Jvm.Cond.methodLink "TypedBloodLaw" (127 : Nat) ({ cls := "TypedBloodLaw", name := "unit", desc := "(LTypedBlood;IIIII[J)I" } : Jvm.MethodName)) := ⟨List.mem_of_getElem? (i := 189) (by decide +kernel), by decide +kernel⟩
theorem ww_190 : wd (Jvm.Cond.static ({ cls := "TypedBloodLaw", name := "unit", desc := "(LTypedBlood;IIIII[J)I" } : Jvm.MethodName)) := ⟨List.mem_of_getElem? (i := 190) (by decide +kernel), by decide +kernel⟩
theorem ww_191 : wd (Jvm.Cond.codeWith ({ cls := "TypedBloodLaw", name := "unit", desc := "(LTypedBlood;IIIII[J)I" } : Jvm.MethodName) method_4_code (8 : Nat) (Option.some Jvm.ClassFile.FieldType.int) [((0 : Nat), (16 : Nat), (19 : Nat), (13 : Nat)), ((0 : Nat), (16 : Nat), (23 : Nat), (19 : Nat))]) := ⟨List.mem_of_getElem? (i := 191) (by decide +kernel), by decide +kernel⟩
theorem ww_192 : wd (Jvm.Cond.classLink "TypedBloodLaw" (19 : Nat) "java/lang/IllegalStateException") := ⟨List.mem_of_getElem? (i := 192) (by decide +kernel), by decide +kernel⟩
theorem ww_193 : wd (Jvm.Cond.methodLink "TypedBloodLaw" (15 : Nat) ({ cls := "TypedBlood", name := "unit", desc := "(IIIII)I" } : Jvm.MethodName)) := ⟨List.mem_of_getElem? (i := 193) (by decide +kernel), by decide +kernel⟩
theorem ww_194 : wd (Jvm.Cond.instanceMethod ({ cls := "TypedBlood", name := "unit", desc := "(IIIII)I" } : Jvm.MethodName)) := ⟨List.mem_of_getElem? (i := 194) (by decide +kernel), by decide +kernel⟩
theorem ww_195 : wd (Jvm.Cond.selects "TypedBlood" ({ cls := "TypedBlood", name := "unit", desc := "(IIIII)I" } : Jvm.MethodName) ({ cls := "TypedBlood", name := "unit", desc := "(IIIII)I" } : Jvm.MethodName)) := ⟨List.mem_of_getElem? (i := 195) (by decide +kernel), by decide +kernel⟩
theorem ww_196 : wd (Jvm.Cond.code ({ cls := "TypedBlood", name := "unit", desc := "(IIIII)I" } : Jvm.MethodName) prog_1_method_3_code (6 : Nat) (Option.some Jvm.ClassFile.FieldType.int)) := ⟨List.mem_of_getElem? (i := 196) (by decide +kernel), by decide +kernel⟩
theorem ww_197 : wd (Jvm.Cond.methodLink "TypedBlood" (48 : Nat) ({ cls := "TypedBlood", name := "isBelow", desc := "(II)Z" } : Jvm.MethodName)) := ⟨List.mem_of_getElem? (i := 197) (by decide +kernel), by decide +kernel⟩
theorem ww_198 : wd (Jvm.Cond.static ({ cls := "TypedBlood", name := "isBelow", desc := "(II)Z" } : Jvm.MethodName)) := ⟨List.mem_of_getElem? (i := 198) (by decide +kernel), by decide +kernel⟩
theorem ww_199 : wd (Jvm.Cond.code ({ cls := "TypedBlood", name := "isBelow", desc := "(II)Z" } : Jvm.MethodName) prog_1_method_31_code (2 : Nat) (Option.some Jvm.ClassFile.FieldType.boolean)) := ⟨List.mem_of_getElem? (i := 199) (by decide +kernel), by decide +kernel⟩
theorem ww_200 : wd (Jvm.Cond.methodLink "TypedBlood" (52 : Nat) ({ cls := "TypedBlood", name := "isBloodType", desc := "(II)Z" } : Jvm.MethodName)) := ⟨List.mem_of_getElem? (i := 200) (by decide +kernel), by decide +kernel⟩
theorem ww_201 : wd (Jvm.Cond.static ({ cls := "TypedBlood", name := "isBloodType", desc := "(II)Z" } : Jvm.MethodName)) := ⟨List.mem_of_getElem? (i := 201) (by decide +kernel), by decide +kernel⟩
theorem ww_202 : wd (Jvm.Cond.code ({ cls := "TypedBlood", name := "isBloodType", desc := "(II)Z" } : Jvm.MethodName) prog_1_method_32_code (2 : Nat) (Option.some Jvm.ClassFile.FieldType.boolean)) := ⟨List.mem_of_getElem? (i := 202) (by decide +kernel), by decide +kernel⟩
theorem ww_204 : wd (Jvm.Cond.constant "TypedBlood" (57 : Nat) (60000 : Int32)) := ⟨List.mem_of_getElem? (i := 204) (by decide +kernel), by decide +kernel⟩
theorem ww_206 : wd (Jvm.Cond.methodLink "TypedBlood" (60 : Nat) ({ cls := "TypedBlood", name := "hasRoomFor", desc := "(I)Z" } : Jvm.MethodName)) := ⟨List.mem_of_getElem? (i := 206) (by decide +kernel), by decide +kernel⟩
theorem ww_208 : wd (Jvm.Cond.instanceMethod ({ cls := "TypedBlood", name := "hasRoomFor", desc := "(I)Z" } : Jvm.MethodName)) := ⟨List.mem_of_getElem? (i := 208) (by decide +kernel), by decide +kernel⟩
theorem ww_209 : wd (Jvm.Cond.code ({ cls := "TypedBlood", name := "hasRoomFor", desc := "(I)Z" } : Jvm.MethodName) prog_1_method_35_code (2 : Nat) (Option.some Jvm.ClassFile.FieldType.boolean)) := ⟨List.mem_of_getElem? (i := 209) (by decide +kernel), by decide +kernel⟩
theorem ww_210 : wd (Jvm.Cond.classLink "TypedBlood" (64 : Nat) "java/lang/IllegalStateException") := ⟨List.mem_of_getElem? (i := 210) (by decide +kernel), by decide +kernel⟩
theorem ww_212 : wd (Jvm.Cond.castable "java/lang/IllegalStateException" "java/lang/IllegalStateException") := ⟨List.mem_of_getElem? (i := 212) (by decide +kernel), by decide +kernel⟩
theorem ww_226 : wd (Jvm.Cond.instantiable "TypedBlood$Unit" (15 : Nat)) := ⟨List.mem_of_getElem? (i := 226) (by decide +kernel), by decide +kernel⟩
theorem ww_227 : wd (Jvm.Cond.methodLink "TypedBlood" (69 : Nat) ({ cls := "TypedBlood$Unit", name := "<init>", desc := "(IIIII)V" } : Jvm.MethodName)) := ⟨List.mem_of_getElem? (i := 227) (by decide +kernel), by decide +kernel⟩
theorem ww_228 : wd (Jvm.Cond.instanceMethod ({ cls := "TypedBlood$Unit", name := "<init>", desc := "(IIIII)V" } : Jvm.MethodName)) := ⟨List.mem_of_getElem? (i := 228) (by decide +kernel), by decide +kernel⟩
theorem ww_229 : wd (Jvm.Cond.code ({ cls := "TypedBlood$Unit", name := "<init>", desc := "(IIIII)V" } : Jvm.MethodName) prog_5_method_1_code (6 : Nat) (Option.none : Option Jvm.ClassFile.FieldType)) := ⟨List.mem_of_getElem? (i := 229) (by decide +kernel), by decide +kernel⟩
theorem ww_230 : wd (Jvm.Cond.methodLink "TypedBlood$Unit" (3 : Nat) ({ cls := "java/lang/Object", name := "<init>", desc := "()V" } : Jvm.MethodName)) := ⟨List.mem_of_getElem? (i := 230) (by decide +kernel), by decide +kernel⟩
theorem ww_231 : wd (Jvm.Cond.fieldLink "TypedBlood$Unit" (21 : Nat) "TypedBlood$Unit" "kind" "I") := ⟨List.mem_of_getElem? (i := 231) (by decide +kernel), by decide +kernel⟩
theorem ww_232 : wd (Jvm.Cond.fieldLink "TypedBlood$Rules" (9 : Nat) "TypedBlood$Unit" "kind" "I") := ⟨List.mem_of_getElem? (i := 232) (by decide +kernel), by decide +kernel⟩
theorem ww_233 : wd (Jvm.Cond.fieldLink "TypedBlood" (99 : Nat) "TypedBlood$Unit" "kind" "I") := ⟨List.mem_of_getElem? (i := 233) (by decide +kernel), by decide +kernel⟩
theorem ww_234 : wd (Jvm.Cond.fieldLink "TypedBlood$Unit" (24 : Nat) "TypedBlood$Unit" "group" "I") := ⟨List.mem_of_getElem? (i := 234) (by decide +kernel), by decide +kernel⟩
theorem ww_235 : wd (Jvm.Cond.fieldLink "TypedBlood$Rules" (42 : Nat) "TypedBlood$Unit" "group" "I") := ⟨List.mem_of_getElem? (i := 235) (by decide +kernel), by decide +kernel⟩
theorem ww_236 : wd (Jvm.Cond.fieldLink "TypedBlood" (128 : Nat) "TypedBlood$Unit" "group" "I") := ⟨List.mem_of_getElem? (i := 236) (by decide +kernel), by decide +kernel⟩
theorem ww_237 : wd (Jvm.Cond.fieldLink "TypedBlood$Unit" (27 : Nat) "TypedBlood$Unit" "rhesus" "I") := ⟨List.mem_of_getElem? (i := 237) (by decide +kernel), by decide +kernel⟩
theorem ww_238 : wd (Jvm.Cond.fieldLink "TypedBlood$Rules" (21 : Nat) "TypedBlood$Unit" "rhesus" "I") := ⟨List.mem_of_getElem? (i := 238) (by decide +kernel), by decide +kernel⟩
theorem ww_239 : wd (Jvm.Cond.fieldLink "TypedBlood" (131 : Nat) "TypedBlood$Unit" "rhesus" "I") := ⟨List.mem_of_getElem? (i := 239) (by decide +kernel), by decide +kernel⟩
theorem ww_240 : wd (Jvm.Cond.fieldLink "TypedBlood$Unit" (30 : Nat) "TypedBlood$Unit" "donors" "I") := ⟨List.mem_of_getElem? (i := 240) (by decide +kernel), by decide +kernel⟩
theorem ww_241 : wd (Jvm.Cond.fieldLink "TypedBlood" (335 : Nat) "TypedBlood$Unit" "donors" "I") := ⟨List.mem_of_getElem? (i := 241) (by decide +kernel), by decide +kernel⟩
theorem ww_242 : wd (Jvm.Cond.fieldLink "TypedBlood$Unit" (33 : Nat) "TypedBlood$Unit" "expiry" "I") := ⟨List.mem_of_getElem? (i := 242) (by decide +kernel), by decide +kernel⟩
theorem ww_243 : wd (Jvm.Cond.fieldLink "TypedBlood" (266 : Nat) "TypedBlood$Unit" "expiry" "I") := ⟨List.mem_of_getElem? (i := 243) (by decide +kernel), by decide +kernel⟩
theorem ww_244 : wd (Jvm.Cond.fieldLink "TypedBlood$Unit" (36 : Nat) "TypedBlood$Unit" "present" "I") := ⟨List.mem_of_getElem? (i := 244) (by decide +kernel), by decide +kernel⟩
theorem ww_245 : wd (Jvm.Cond.fieldLink "TypedBlood" (343 : Nat) "TypedBlood$Unit" "present" "I") := ⟨List.mem_of_getElem? (i := 245) (by decide +kernel), by decide +kernel⟩
theorem ww_246 : wd (Jvm.Cond.fieldLink "TypedBlood$Rules" (33 : Nat) "TypedBlood$Unit" "absent" "I") := ⟨List.mem_of_getElem? (i := 246) (by decide +kernel), by decide +kernel⟩
theorem ww_247 : wd (Jvm.Cond.fieldLink "TypedBlood$Unit" (39 : Nat) "TypedBlood$Unit" "absent" "I") := ⟨List.mem_of_getElem? (i := 247) (by decide +kernel), by decide +kernel⟩
theorem ww_248 : wd (Jvm.Cond.fieldLink "TypedBlood" (346 : Nat) "TypedBlood$Unit" "absent" "I") := ⟨List.mem_of_getElem? (i := 248) (by decide +kernel), by decide +kernel⟩
theorem ww_249 : wd (Jvm.Cond.fieldLink "TypedBlood$Rules" (39 : Nat) "TypedBlood$Unit" "marks" "I") := ⟨List.mem_of_getElem? (i := 249) (by decide +kernel), by decide +kernel⟩
theorem ww_250 : wd (Jvm.Cond.fieldLink "TypedBlood" (263 : Nat) "TypedBlood$Unit" "marks" "I") := ⟨List.mem_of_getElem? (i := 250) (by decide +kernel), by decide +kernel⟩
theorem ww_251 : wd (Jvm.Cond.fieldLink "TypedBlood$Unit" (9 : Nat) "TypedBlood$Unit" "state" "I") := ⟨List.mem_of_getElem? (i := 251) (by decide +kernel), by decide +kernel⟩
theorem ww_252 : wd (Jvm.Cond.fieldLink "TypedBlood" (82 : Nat) "TypedBlood$Unit" "state" "I") := ⟨List.mem_of_getElem? (i := 252) (by decide +kernel), by decide +kernel⟩
theorem ww_253 : wd (Jvm.Cond.fieldLink "TypedBlood$Unit" (15 : Nat) "TypedBlood$Unit" "holder" "I") := ⟨List.mem_of_getElem? (i := 253) (by decide +kernel), by decide +kernel⟩
theorem ww_254 : wd (Jvm.Cond.fieldLink "TypedBlood" (209 : Nat) "TypedBlood$Unit" "holder" "I") := ⟨List.mem_of_getElem? (i := 254) (by decide +kernel), by decide +kernel⟩
theorem ww_255 : wd (Jvm.Cond.fieldLink "TypedBlood$Unit" (42 : Nat) "TypedBlood$Unit" "reservedUntil" "I") := ⟨List.mem_of_getElem? (i := 255) (by decide +kernel), by decide +kernel⟩
theorem ww_256 : wd (Jvm.Cond.fieldLink "TypedBlood" (204 : Nat) "TypedBlood$Unit" "reservedUntil" "I") := ⟨List.mem_of_getElem? (i := 256) (by decide +kernel), by decide +kernel⟩
theorem ww_257 : wd (Jvm.Cond.fieldLink "TypedBlood$Unit" (51 : Nat) "TypedBlood$Unit" "issuedAt" "I") := ⟨List.mem_of_getElem? (i := 257) (by decide +kernel), by decide +kernel⟩
theorem ww_258 : wd (Jvm.Cond.fieldLink "TypedBlood" (241 : Nat) "TypedBlood$Unit" "issuedAt" "I") := ⟨List.mem_of_getElem? (i := 258) (by decide +kernel), by decide +kernel⟩
theorem ww_259 : wd (Jvm.Cond.fieldLink "TypedBlood$Unit" (18 : Nat) "TypedBlood$Unit" "issueOrder" "I") := ⟨List.mem_of_getElem? (i := 259) (by decide +kernel), by decide +kernel⟩
theorem ww_260 : wd (Jvm.Cond.fieldLink "TypedBlood" (310 : Nat) "TypedBlood$Unit" "issueOrder" "I") := ⟨List.mem_of_getElem? (i := 260) (by decide +kernel), by decide +kernel⟩
theorem ww_261 : wd (Jvm.Cond.fieldLink "TypedBlood$Unit" (48 : Nat) "TypedBlood$Unit" "doctor" "I") := ⟨List.mem_of_getElem? (i := 261) (by decide +kernel), by decide +kernel⟩
theorem ww_262 : wd (Jvm.Cond.fieldLink "TypedBlood" (269 : Nat) "TypedBlood$Unit" "doctor" "I") := ⟨List.mem_of_getElem? (i := 262) (by decide +kernel), by decide +kernel⟩
theorem ww_263 : wd (Jvm.Cond.fieldLink "TypedBlood$Unit" (54 : Nat) "TypedBlood$Unit" "discardReason" "I") := ⟨List.mem_of_getElem? (i := 263) (by decide +kernel), by decide +kernel⟩
theorem ww_264 : wd (Jvm.Cond.fieldLink "TypedBlood" (272 : Nat) "TypedBlood$Unit" "discardReason" "I") := ⟨List.mem_of_getElem? (i := 264) (by decide +kernel), by decide +kernel⟩
theorem ww_296 : wd (Jvm.Cond.methodLink "TypedBlood" (72 : Nat) ({ cls := "TypedBlood", name := "keep", desc := "(LTypedBlood$Unit;)I" } : Jvm.MethodName)) := ⟨List.mem_of_getElem? (i := 296) (by decide +kernel), by decide +kernel⟩
theorem ww_298 : wd (Jvm.Cond.instanceMethod ({ cls := "TypedBlood", name := "keep", desc := "(LTypedBlood$Unit;)I" } : Jvm.MethodName)) := ⟨List.mem_of_getElem? (i := 298) (by decide +kernel), by decide +kernel⟩
theorem ww_299 : wd (Jvm.Cond.code ({ cls := "TypedBlood", name := "keep", desc := "(LTypedBlood$Unit;)I" } : Jvm.MethodName) prog_1_method_46_code (2 : Nat) (Option.some Jvm.ClassFile.FieldType.int)) := ⟨List.mem_of_getElem? (i := 299) (by decide +kernel), by decide +kernel⟩
theorem ww_300 : wd (Jvm.Cond.methodLink "TypedBloodLaw" (131 : Nat) ({ cls := "TypedBloodLaw", name := "antigen", desc := "(LTypedBlood;III)I" } : Jvm.MethodName)) := ⟨List.mem_of_getElem? (i := 300) (by decide +kernel), by decide +kernel⟩
theorem ww_301 : wd (Jvm.Cond.static ({ cls := "TypedBloodLaw", name := "antigen", desc := "(LTypedBlood;III)I" } : Jvm.MethodName)) := ⟨List.mem_of_getElem? (i := 301) (by decide +kernel), by decide +kernel⟩
theorem ww_302 : wd (Jvm.Cond.codeWith ({ cls := "TypedBloodLaw", name := "antigen", desc := "(LTypedBlood;III)I" } : Jvm.MethodName) method_5_code (5 : Nat) (Option.some Jvm.ClassFile.FieldType.int) [((0 : Nat), (7 : Nat), (10 : Nat), (25 : Nat)), ((0 : Nat), (7 : Nat), (14 : Nat), (13 : Nat)), ((0 : Nat), (7 : Nat), (18 : Nat), (19 : Nat))]) := ⟨List.mem_of_getElem? (i := 302) (by decide +kernel), by decide +kernel⟩
theorem ww_303 : wd (Jvm.Cond.classLink "TypedBloodLaw" (25 : Nat) "java/util/NoSuchElementException") := ⟨List.mem_of_getElem? (i := 303) (by decide +kernel), by decide +kernel⟩
theorem ww_304 : wd (Jvm.Cond.methodLink "TypedBloodLaw" (21 : Nat) ({ cls := "TypedBlood", name := "antigen", desc := "(III)V" } : Jvm.MethodName)) := ⟨List.mem_of_getElem? (i := 304) (by decide +kernel), by decide +kernel⟩
theorem ww_305 : wd (Jvm.Cond.instanceMethod ({ cls := "TypedBlood", name := "antigen", desc := "(III)V" } : Jvm.MethodName)) := ⟨List.mem_of_getElem? (i := 305) (by decide +kernel), by decide +kernel⟩
theorem ww_306 : wd (Jvm.Cond.selects "TypedBlood" ({ cls := "TypedBlood", name := "antigen", desc := "(III)V" } : Jvm.MethodName) ({ cls := "TypedBlood", name := "antigen", desc := "(III)V" } : Jvm.MethodName)) := ⟨List.mem_of_getElem? (i := 306) (by decide +kernel), by decide +kernel⟩
theorem ww_307 : wd (Jvm.Cond.code ({ cls := "TypedBlood", name := "antigen", desc := "(III)V" } : Jvm.MethodName) prog_1_method_4_code (5 : Nat) (Option.none : Option Jvm.ClassFile.FieldType)) := ⟨List.mem_of_getElem? (i := 307) (by decide +kernel), by decide +kernel⟩
theorem ww_308 : wd (Jvm.Cond.methodLink "TypedBlood" (76 : Nat) ({ cls := "TypedBlood", name := "unitAt", desc := "(I)LTypedBlood$Unit;" } : Jvm.MethodName)) := ⟨List.mem_of_getElem? (i := 308) (by decide +kernel), by decide +kernel⟩
theorem ww_310 : wd (Jvm.Cond.instanceMethod ({ cls := "TypedBlood", name := "unitAt", desc := "(I)LTypedBlood$Unit;" } : Jvm.MethodName)) := ⟨List.mem_of_getElem? (i := 310) (by decide +kernel), by decide +kernel⟩
theorem ww_311 : wd (Jvm.Cond.code ({ cls := "TypedBlood", name := "unitAt", desc := "(I)LTypedBlood$Unit;" } : Jvm.MethodName) prog_1_method_33_code (2 : Nat) (Option.some (Jvm.ClassFile.FieldType.object "TypedBlood$Unit"))) := ⟨List.mem_of_getElem? (i := 311) (by decide +kernel), by decide +kernel⟩
theorem ww_312 : wd (Jvm.Cond.classLink "TypedBlood" (315 : Nat) "java/util/NoSuchElementException") := ⟨List.mem_of_getElem? (i := 312) (by decide +kernel), by decide +kernel⟩
theorem ww_314 : wd (Jvm.Cond.castable "java/util/NoSuchElementException" "java/util/NoSuchElementException") := ⟨List.mem_of_getElem? (i := 314) (by decide +kernel), by decide +kernel⟩
theorem ww_330 : wd (Jvm.Cond.methodLink "TypedBlood" (87 : Nat) ({ cls := "TypedBlood$Unit", name := "setAntigen", desc := "(II)V" } : Jvm.MethodName)) := ⟨List.mem_of_getElem? (i := 330) (by decide +kernel), by decide +kernel⟩
theorem ww_331 : wd (Jvm.Cond.instanceMethod ({ cls := "TypedBlood$Unit", name := "setAntigen", desc := "(II)V" } : Jvm.MethodName)) := ⟨List.mem_of_getElem? (i := 331) (by decide +kernel), by decide +kernel⟩
theorem ww_332 : wd (Jvm.Cond.selects "TypedBlood$Unit" ({ cls := "TypedBlood$Unit", name := "setAntigen", desc := "(II)V" } : Jvm.MethodName) ({ cls := "TypedBlood$Unit", name := "setAntigen", desc := "(II)V" } : Jvm.MethodName)) := ⟨List.mem_of_getElem? (i := 332) (by decide +kernel), by decide +kernel⟩
theorem ww_333 : wd (Jvm.Cond.code ({ cls := "TypedBlood$Unit", name := "setAntigen", desc := "(II)V" } : Jvm.MethodName) prog_5_method_8_code (4 : Nat) (Option.none : Option Jvm.ClassFile.FieldType)) := ⟨List.mem_of_getElem? (i := 333) (by decide +kernel), by decide +kernel⟩
theorem ww_334 : wd (Jvm.Cond.methodLink "TypedBloodLaw" (135 : Nat) ({ cls := "TypedBloodLaw", name := "process", desc := "(LTypedBlood;II[J)I" } : Jvm.MethodName)) := ⟨List.mem_of_getElem? (i := 334) (by decide +kernel), by decide +kernel⟩
theorem ww_335 : wd (Jvm.Cond.static ({ cls := "TypedBloodLaw", name := "process", desc := "(LTypedBlood;II[J)I" } : Jvm.MethodName)) := ⟨List.mem_of_getElem? (i := 335) (by decide +kernel), by decide +kernel⟩
theorem ww_336 : wd (Jvm.Cond.codeWith ({ cls := "TypedBloodLaw", name := "process", desc := "(LTypedBlood;II[J)I" } : Jvm.MethodName) method_6_code (5 : Nat) (Option.some Jvm.ClassFile.FieldType.int) [((0 : Nat), (10 : Nat), (13 : Nat), (25 : Nat)), ((0 : Nat), (10 : Nat), (17 : Nat), (13 : Nat)), ((0 : Nat), (10 : Nat), (21 : Nat), (19 : Nat)), ((0 : Nat), (10 : Nat), (25 : Nat), (31 : Nat))]) := ⟨List.mem_of_getElem? (i := 336) (by decide +kernel), by decide +kernel⟩
theorem ww_337 : wd (Jvm.Cond.classLink "TypedBloodLaw" (31 : Nat) "java/lang/UnsupportedOperationException") := ⟨List.mem_of_getElem? (i := 337) (by decide +kernel), by decide +kernel⟩
theorem ww_338 : wd (Jvm.Cond.methodLink "TypedBloodLaw" (27 : Nat) ({ cls := "TypedBlood", name := "process", desc := "(II)I" } : Jvm.MethodName)) := ⟨List.mem_of_getElem? (i := 338) (by decide +kernel), by decide +kernel⟩
theorem ww_339 : wd (Jvm.Cond.instanceMethod ({ cls := "TypedBlood", name := "process", desc := "(II)I" } : Jvm.MethodName)) := ⟨List.mem_of_getElem? (i := 339) (by decide +kernel), by decide +kernel⟩
theorem ww_340 : wd (Jvm.Cond.selects "TypedBlood" ({ cls := "TypedBlood", name := "process", desc := "(II)I" } : Jvm.MethodName) ({ cls := "TypedBlood", name := "process", desc := "(II)I" } : Jvm.MethodName)) := ⟨List.mem_of_getElem? (i := 340) (by decide +kernel), by decide +kernel⟩
theorem ww_341 : wd (Jvm.Cond.code ({ cls := "TypedBlood", name := "process", desc := "(II)I" } : Jvm.MethodName) prog_1_method_5_code (4 : Nat) (Option.some Jvm.ClassFile.FieldType.int)) := ⟨List.mem_of_getElem? (i := 341) (by decide +kernel), by decide +kernel⟩
theorem ww_343 : wd (Jvm.Cond.methodLink "TypedBlood" (93 : Nat) ({ cls := "TypedBlood", name := "isReady", desc := "(LTypedBlood$Unit;)Z" } : Jvm.MethodName)) := ⟨List.mem_of_getElem? (i := 343) (by decide +kernel), by decide +kernel⟩
theorem ww_345 : wd (Jvm.Cond.instanceMethod ({ cls := "TypedBlood", name := "isReady", desc := "(LTypedBlood$Unit;)Z" } : Jvm.MethodName)) := ⟨List.mem_of_getElem? (i := 345) (by decide +kernel), by decide +kernel⟩
theorem ww_346 : wd (Jvm.Cond.code ({ cls := "TypedBlood", name := "isReady", desc := "(LTypedBlood$Unit;)Z" } : Jvm.MethodName) prog_1_method_36_code (2 : Nat) (Option.some Jvm.ClassFile.FieldType.boolean)) := ⟨List.mem_of_getElem? (i := 346) (by decide +kernel), by decide +kernel⟩
theorem ww_347 : wd (Jvm.Cond.methodLink "TypedBlood" (322 : Nat) ({ cls := "TypedBlood", name := "isUsable", desc := "(LTypedBlood$Unit;)Z" } : Jvm.MethodName)) := ⟨List.mem_of_getElem? (i := 347) (by decide +kernel), by decide +kernel⟩
theorem ww_349 : wd (Jvm.Cond.instanceMethod ({ cls := "TypedBlood", name := "isUsable", desc := "(LTypedBlood$Unit;)Z" } : Jvm.MethodName)) := ⟨List.mem_of_getElem? (i := 349) (by decide +kernel), by decide +kernel⟩
theorem ww_350 : wd (Jvm.Cond.code ({ cls := "TypedBlood", name := "isUsable", desc := "(LTypedBlood$Unit;)Z" } : Jvm.MethodName) prog_1_method_37_code (2 : Nat) (Option.some Jvm.ClassFile.FieldType.boolean)) := ⟨List.mem_of_getElem? (i := 350) (by decide +kernel), by decide +kernel⟩
theorem ww_351 : wd (Jvm.Cond.methodLink "TypedBlood" (300 : Nat) ({ cls := "TypedBlood$Unit", name := "isExpired", desc := "(I)Z" } : Jvm.MethodName)) := ⟨List.mem_of_getElem? (i := 351) (by decide +kernel), by decide +kernel⟩
theorem ww_352 : wd (Jvm.Cond.instanceMethod ({ cls := "TypedBlood$Unit", name := "isExpired", desc := "(I)Z" } : Jvm.MethodName)) := ⟨List.mem_of_getElem? (i := 352) (by decide +kernel), by decide +kernel⟩
theorem ww_353 : wd (Jvm.Cond.selects "TypedBlood$Unit" ({ cls := "TypedBlood$Unit", name := "isExpired", desc := "(I)Z" } : Jvm.MethodName) ({ cls := "TypedBlood$Unit", name := "isExpired", desc := "(I)Z" } : Jvm.MethodName)) := ⟨List.mem_of_getElem? (i := 353) (by decide +kernel), by decide +kernel⟩
theorem ww_354 : wd (Jvm.Cond.code ({ cls := "TypedBlood$Unit", name := "isExpired", desc := "(I)Z" } : Jvm.MethodName) prog_5_method_2_code (2 : Nat) (Option.some Jvm.ClassFile.FieldType.boolean)) := ⟨List.mem_of_getElem? (i := 354) (by decide +kernel), by decide +kernel⟩
theorem ww_355 : wd (Jvm.Cond.methodLink "TypedBlood" (260 : Nat) ({ cls := "TypedBlood$Unit", name := "isBarred", desc := "(I)Z" } : Jvm.MethodName)) := ⟨List.mem_of_getElem? (i := 355) (by decide +kernel), by decide +kernel⟩
theorem ww_356 : wd (Jvm.Cond.instanceMethod ({ cls := "TypedBlood$Unit", name := "isBarred", desc := "(I)Z" } : Jvm.MethodName)) := ⟨List.mem_of_getElem? (i := 356) (by decide +kernel), by decide +kernel⟩
theorem ww_357 : wd (Jvm.Cond.selects "TypedBlood$Unit" ({ cls := "TypedBlood$Unit", name := "isBarred", desc := "(I)Z" } : Jvm.MethodName) ({ cls := "TypedBlood$Unit", name := "isBarred", desc := "(I)Z" } : Jvm.MethodName)) := ⟨List.mem_of_getElem? (i := 357) (by decide +kernel), by decide +kernel⟩
theorem ww_358 : wd (Jvm.Cond.code ({ cls := "TypedBlood$Unit", name := "isBarred", desc := "(I)Z" } : Jvm.MethodName) prog_5_method_3_code (2 : Nat) (Option.some Jvm.ClassFile.FieldType.boolean)) := ⟨List.mem_of_getElem? (i := 358) (by decide +kernel), by decide +kernel⟩
theorem ww_360 : wd (Jvm.Cond.methodLink "TypedBlood" (102 : Nat) ({ cls := "TypedBlood", name := "suits", desc := "(II)Z" } : Jvm.MethodName)) := ⟨List.mem_of_getElem? (i := 360) (by decide +kernel), by decide +kernel⟩
theorem ww_361 : wd (Jvm.Cond.static ({ cls := "TypedBlood", name := "suits", desc := "(II)Z" } : Jvm.MethodName)) := ⟨List.mem_of_getElem? (i := 361) (by decide +kernel), by decide +kernel⟩
theorem ww_362 : wd (Jvm.Cond.code ({ cls := "TypedBlood", name := "suits", desc := "(II)Z" } : Jvm.MethodName) prog_1_method_42_code (2 : Nat) (Option.some Jvm.ClassFile.FieldType.boolean)) := ⟨List.mem_of_getElem? (i := 362) (by decide +kernel), by decide +kernel⟩
theorem ww_363 : wd (Jvm.Cond.classLink "TypedBlood" (105 : Nat) "java/lang/UnsupportedOperationException") := ⟨List.mem_of_getElem? (i := 363) (by decide +kernel), by decide +kernel⟩
theorem ww_365 : wd (Jvm.Cond.castable "java/lang/UnsupportedOperationException" "java/lang/UnsupportedOperationException") := ⟨List.mem_of_getElem? (i := 365) (by decide +kernel), by decide +kernel⟩
theorem ww_379 : wd (Jvm.Cond.methodLink "TypedBlood" (110 : Nat) ({ cls := "TypedBlood", name := "keepSplitProducts", desc := "(LTypedBlood$Unit;)I" } : Jvm.MethodName)) := ⟨List.mem_of_getElem? (i := 379) (by decide +kernel), by decide +kernel⟩
theorem ww_381 : wd (Jvm.Cond.instanceMethod ({ cls := "TypedBlood", name := "keepSplitProducts", desc := "(LTypedBlood$Unit;)I" } : Jvm.MethodName)) := ⟨List.mem_of_getElem? (i := 381) (by decide +kernel), by decide +kernel⟩
theorem ww_382 : wd (Jvm.Cond.code ({ cls := "TypedBlood", name := "keepSplitProducts", desc := "(LTypedBlood$Unit;)I" } : Jvm.MethodName) prog_1_method_43_code (3 : Nat) (Option.some Jvm.ClassFile.FieldType.int)) := ⟨List.mem_of_getElem? (i := 382) (by decide +kernel), by decide +kernel⟩
theorem ww_383 : wd (Jvm.Cond.methodLink "TypedBlood" (120 : Nat) ({ cls := "TypedBlood", name := "keepProduct", desc := "(LTypedBlood$Unit;III)I" } : Jvm.MethodName)) := ⟨List.mem_of_getElem? (i := 383) (by decide +kernel), by decide +kernel⟩
theorem ww_385 : wd (Jvm.Cond.instanceMethod ({ cls := "TypedBlood", name := "keepProduct", desc := "(LTypedBlood$Unit;III)I" } : Jvm.MethodName)) := ⟨List.mem_of_getElem? (i := 385) (by decide +kernel), by decide +kernel⟩
theorem ww_386 : wd (Jvm.Cond.code ({ cls := "TypedBlood", name := "keepProduct", desc := "(LTypedBlood$Unit;III)I" } : Jvm.MethodName) prog_1_method_44_code (7 : Nat) (Option.some Jvm.ClassFile.FieldType.int)) := ⟨List.mem_of_getElem? (i := 386) (by decide +kernel), by decide +kernel⟩
theorem ww_387 : wd (Jvm.Cond.methodLink "TypedBlood" (338 : Nat) ({ cls := "java/lang/Math", name := "min", desc := "(II)I" } : Jvm.MethodName)) := ⟨List.mem_of_getElem? (i := 387) (by decide +kernel), by decide +kernel⟩
theorem ww_388 : wd (Jvm.Cond.static ({ cls := "java/lang/Math", name := "min", desc := "(II)I" } : Jvm.MethodName)) := ⟨List.mem_of_getElem? (i := 388) (by decide +kernel), by decide +kernel⟩
theorem ww_389 : wd (Jvm.Cond.code ({ cls := "java/lang/Math", name := "min", desc := "(II)I" } : Jvm.MethodName) prog_13_method_69_code (2 : Nat) (Option.some Jvm.ClassFile.FieldType.int)) := ⟨List.mem_of_getElem? (i := 389) (by decide +kernel), by decide +kernel⟩
theorem ww_390 : wd (Jvm.Cond.fieldLink "TypedBlood" (117 : Nat) "TypedBlood" "PRODUCT_LIMIT" "[I") := ⟨List.mem_of_getElem? (i := 390) (by decide +kernel), by decide +kernel⟩
theorem ww_392 : wd (Jvm.Cond.fieldLink "TypedBlood" (113 : Nat) "TypedBlood" "ADDED_MARK" "[I") := ⟨List.mem_of_getElem? (i := 392) (by decide +kernel), by decide +kernel⟩
theorem ww_394 : wd (Jvm.Cond.methodLink "TypedBloodLaw" (139 : Nat) ({ cls := "TypedBloodLaw", name := "pool", desc := "(LTypedBlood;II[J)I" } : Jvm.MethodName)) := ⟨List.mem_of_getElem? (i := 394) (by decide +kernel), by decide +kernel⟩
theorem ww_395 : wd (Jvm.Cond.static ({ cls := "TypedBloodLaw", name := "pool", desc := "(LTypedBlood;II[J)I" } : Jvm.MethodName)) := ⟨List.mem_of_getElem? (i := 395) (by decide +kernel), by decide +kernel⟩
theorem ww_396 : wd (Jvm.Cond.codeWith ({ cls := "TypedBloodLaw", name := "pool", desc := "(LTypedBlood;II[J)I" } : Jvm.MethodName) method_7_code (5 : Nat) (Option.some Jvm.ClassFile.FieldType.int) [((0 : Nat), (10 : Nat), (13 : Nat), (25 : Nat)), ((0 : Nat), (10 : Nat), (17 : Nat), (13 : Nat)), ((0 : Nat), (10 : Nat), (21 : Nat), (19 : Nat)), ((0 : Nat), (10 : Nat), (25 : Nat), (31 : Nat))]) := ⟨List.mem_of_getElem? (i := 396) (by decide +kernel), by decide +kernel⟩
theorem ww_397 : wd (Jvm.Cond.methodLink "TypedBloodLaw" (33 : Nat) ({ cls := "TypedBlood", name := "pool", desc := "(II)I" } : Jvm.MethodName)) := ⟨List.mem_of_getElem? (i := 397) (by decide +kernel), by decide +kernel⟩
theorem ww_398 : wd (Jvm.Cond.instanceMethod ({ cls := "TypedBlood", name := "pool", desc := "(II)I" } : Jvm.MethodName)) := ⟨List.mem_of_getElem? (i := 398) (by decide +kernel), by decide +kernel⟩
theorem ww_399 : wd (Jvm.Cond.selects "TypedBlood" ({ cls := "TypedBlood", name := "pool", desc := "(II)I" } : Jvm.MethodName) ({ cls := "TypedBlood", name := "pool", desc := "(II)I" } : Jvm.MethodName)) := ⟨List.mem_of_getElem? (i := 399) (by decide +kernel), by decide +kernel⟩
theorem ww_400 : wd (Jvm.Cond.code ({ cls := "TypedBlood", name := "pool", desc := "(II)I" } : Jvm.MethodName) prog_1_method_6_code (5 : Nat) (Option.some Jvm.ClassFile.FieldType.int)) := ⟨List.mem_of_getElem? (i := 400) (by decide +kernel), by decide +kernel⟩
theorem ww_404 : wd (Jvm.Cond.methodLink "TypedBlood" (136 : Nat) ({ cls := "TypedBlood", name := "keepPooled", desc := "(LTypedBlood$Unit;LTypedBlood$Unit;)I" } : Jvm.MethodName)) := ⟨List.mem_of_getElem? (i := 404) (by decide +kernel), by decide +kernel⟩
theorem ww_406 : wd (Jvm.Cond.instanceMethod ({ cls := "TypedBlood", name := "keepPooled", desc := "(LTypedBlood$Unit;LTypedBlood$Unit;)I" } : Jvm.MethodName)) := ⟨List.mem_of_getElem? (i := 406) (by decide +kernel), by decide +kernel⟩
theorem ww_407 : wd (Jvm.Cond.code ({ cls := "TypedBlood", name := "keepPooled", desc := "(LTypedBlood$Unit;LTypedBlood$Unit;)I" } : Jvm.MethodName) prog_1_method_45_code (5 : Nat) (Option.some Jvm.ClassFile.FieldType.int)) := ⟨List.mem_of_getElem? (i := 407) (by decide +kernel), by decide +kernel⟩
theorem ww_408 : wd (Jvm.Cond.methodLink "TypedBloodLaw" (142 : Nat) ({ cls := "TypedBloodLaw", name := "patient", desc := "(LTypedBlood;[J)I" } : Jvm.MethodName)) := ⟨List.mem_of_getElem? (i := 408) (by decide +kernel), by decide +kernel⟩
theorem ww_409 : wd (Jvm.Cond.static ({ cls := "TypedBloodLaw", name := "patient", desc := "(LTypedBlood;[J)I" } : Jvm.MethodName)) := ⟨List.mem_of_getElem? (i := 409) (by decide +kernel), by decide +kernel⟩
theorem ww_410 : wd (Jvm.Cond.codeWith ({ cls := "TypedBloodLaw", name := "patient", desc := "(LTypedBlood;[J)I" } : Jvm.MethodName) method_8_code (3 : Nat) (Option.some Jvm.ClassFile.FieldType.int) [((0 : Nat), (8 : Nat), (11 : Nat), (19 : Nat))]) := ⟨List.mem_of_getElem? (i := 410) (by decide +kernel), by decide +kernel⟩
theorem ww_411 : wd (Jvm.Cond.methodLink "TypedBloodLaw" (36 : Nat) ({ cls := "TypedBlood", name := "patient", desc := "()I" } : Jvm.MethodName)) := ⟨List.mem_of_getElem? (i := 411) (by decide +kernel), by decide +kernel⟩
theorem ww_412 : wd (Jvm.Cond.instanceMethod ({ cls := "TypedBlood", name := "patient", desc := "()I" } : Jvm.MethodName)) := ⟨List.mem_of_getElem? (i := 412) (by decide +kernel), by decide +kernel⟩
theorem ww_413 : wd (Jvm.Cond.selects "TypedBlood" ({ cls := "TypedBlood", name := "patient", desc := "()I" } : Jvm.MethodName) ({ cls := "TypedBlood", name := "patient", desc := "()I" } : Jvm.MethodName)) := ⟨List.mem_of_getElem? (i := 413) (by decide +kernel), by decide +kernel⟩
theorem ww_414 : wd (Jvm.Cond.code ({ cls := "TypedBlood", name := "patient", desc := "()I" } : Jvm.MethodName) prog_1_method_7_code (1 : Nat) (Option.some Jvm.ClassFile.FieldType.int)) := ⟨List.mem_of_getElem? (i := 414) (by decide +kernel), by decide +kernel⟩
theorem ww_416 : wd (Jvm.Cond.instantiable "TypedBlood$Patient" (7 : Nat)) := ⟨List.mem_of_getElem? (i := 416) (by decide +kernel), by decide +kernel⟩
theorem ww_417 : wd (Jvm.Cond.methodLink "TypedBlood" (145 : Nat) ({ cls := "TypedBlood$Patient", name := "<init>", desc := "()V" } : Jvm.MethodName)) := ⟨List.mem_of_getElem? (i := 417) (by decide +kernel), by decide +kernel⟩
theorem ww_418 : wd (Jvm.Cond.instanceMethod ({ cls := "TypedBlood$Patient", name := "<init>", desc := "()V" } : Jvm.MethodName)) := ⟨List.mem_of_getElem? (i := 418) (by decide +kernel), by decide +kernel⟩
theorem ww_419 : wd (Jvm.Cond.code ({ cls := "TypedBlood$Patient", name := "<init>", desc := "()V" } : Jvm.MethodName) prog_2_method_1_code (2 : Nat) (Option.none : Option Jvm.ClassFile.FieldType)) := ⟨List.mem_of_getElem? (i := 419) (by decide +kernel), by decide +kernel⟩
theorem ww_420 : wd (Jvm.Cond.methodLink "TypedBlood$Patient" (3 : Nat) ({ cls := "java/lang/Object", name := "<init>", desc := "()V" } : Jvm.MethodName)) := ⟨List.mem_of_getElem? (i := 420) (by decide +kernel), by decide +kernel⟩
theorem ww_421 : wd (Jvm.Cond.fieldLink "TypedBlood$Patient" (9 : Nat) "TypedBlood$Patient" "status" "I") := ⟨List.mem_of_getElem? (i := 421) (by decide +kernel), by decide +kernel⟩
theorem ww_422 : wd (Jvm.Cond.fieldLink "TypedBlood" (152 : Nat) "TypedBlood$Patient" "status" "I") := ⟨List.mem_of_getElem? (i := 422) (by decide +kernel), by decide +kernel⟩
theorem ww_423 : wd (Jvm.Cond.fieldLink "TypedBlood$Patient" (15 : Nat) "TypedBlood$Patient" "group" "I") := ⟨List.mem_of_getElem? (i := 423) (by decide +kernel), by decide +kernel⟩
theorem ww_424 : wd (Jvm.Cond.fieldLink "TypedBlood" (283 : Nat) "TypedBlood$Patient" "group" "I") := ⟨List.mem_of_getElem? (i := 424) (by decide +kernel), by decide +kernel⟩
theorem ww_425 : wd (Jvm.Cond.fieldLink "TypedBlood$Patient" (18 : Nat) "TypedBlood$Patient" "rhesus" "I") := ⟨List.mem_of_getElem? (i := 425) (by decide +kernel), by decide +kernel⟩
theorem ww_426 : wd (Jvm.Cond.fieldLink "TypedBlood" (284 : Nat) "TypedBlood$Patient" "rhesus" "I") := ⟨List.mem_of_getElem? (i := 426) (by decide +kernel), by decide +kernel⟩
theorem ww_427 : wd (Jvm.Cond.fieldLink "TypedBlood$Patient" (25 : Nat) "TypedBlood$Patient" "sampledAt" "I") := ⟨List.mem_of_getElem? (i := 427) (by decide +kernel), by decide +kernel⟩
theorem ww_428 : wd (Jvm.Cond.fieldLink "TypedBlood$Rules" (30 : Nat) "TypedBlood$Patient" "antibodies" "I") := ⟨List.mem_of_getElem? (i := 428) (by decide +kernel), by decide +kernel⟩
theorem ww_429 : wd (Jvm.Cond.fieldLink "TypedBlood" (168 : Nat) "TypedBlood$Patient" "antibodies" "I") := ⟨List.mem_of_getElem? (i := 429) (by decide +kernel), by decide +kernel⟩
theorem ww_430 : wd (Jvm.Cond.fieldLink "TypedBlood$Rules" (36 : Nat) "TypedBlood$Patient" "needs" "I") := ⟨List.mem_of_getElem? (i := 430) (by decide +kernel), by decide +kernel⟩
theorem ww_431 : wd (Jvm.Cond.fieldLink "TypedBlood" (179 : Nat) "TypedBlood$Patient" "needs" "I") := ⟨List.mem_of_getElem? (i := 431) (by decide +kernel), by decide +kernel⟩
theorem ww_432 : wd (Jvm.Cond.fieldLink "TypedBlood$Patient" (21 : Nat) "TypedBlood$Patient" "negativeAt" "[I") := ⟨List.mem_of_getElem? (i := 432) (by decide +kernel), by decide +kernel⟩
theorem ww_448 : wd (Jvm.Cond.methodLink "TypedBloodLaw" (146 : Nat) ({ cls := "TypedBloodLaw", name := "sample", desc := "(LTypedBlood;III[J)I" } : Jvm.MethodName)) := ⟨List.mem_of_getElem? (i := 448) (by decide +kernel), by decide +kernel⟩
theorem ww_449 : wd (Jvm.Cond.static ({ cls := "TypedBloodLaw", name := "sample", desc := "(LTypedBlood;III[J)I" } : Jvm.MethodName)) := ⟨List.mem_of_getElem? (i := 449) (by decide +kernel), by decide +kernel⟩
theorem ww_450 : wd (Jvm.Cond.codeWith ({ cls := "TypedBloodLaw", name := "sample", desc := "(LTypedBlood;III[J)I" } : Jvm.MethodName) method_9_code (6 : Nat) (Option.some Jvm.ClassFile.FieldType.int) [((0 : Nat), (12 : Nat), (15 : Nat), (25 : Nat)), ((0 : Nat), (12 : Nat), (19 : Nat), (13 : Nat)), ((0 : Nat), (12 : Nat), (23 : Nat), (19 : Nat))]) := ⟨List.mem_of_getElem? (i := 450) (by decide +kernel), by decide +kernel⟩
theorem ww_451 : wd (Jvm.Cond.methodLink "TypedBloodLaw" (40 : Nat) ({ cls := "TypedBlood", name := "sample", desc := "(III)I" } : Jvm.MethodName)) := ⟨List.mem_of_getElem? (i := 451) (by decide +kernel), by decide +kernel⟩
theorem ww_452 : wd (Jvm.Cond.instanceMethod ({ cls := "TypedBlood", name := "sample", desc := "(III)I" } : Jvm.MethodName)) := ⟨List.mem_of_getElem? (i := 452) (by decide +kernel), by decide +kernel⟩
theorem ww_453 : wd (Jvm.Cond.selects "TypedBlood" ({ cls := "TypedBlood", name := "sample", desc := "(III)I" } : Jvm.MethodName) ({ cls := "TypedBlood", name := "sample", desc := "(III)I" } : Jvm.MethodName)) := ⟨List.mem_of_getElem? (i := 453) (by decide +kernel), by decide +kernel⟩
theorem ww_454 : wd (Jvm.Cond.code ({ cls := "TypedBlood", name := "sample", desc := "(III)I" } : Jvm.MethodName) prog_1_method_8_code (5 : Nat) (Option.some Jvm.ClassFile.FieldType.int)) := ⟨List.mem_of_getElem? (i := 454) (by decide +kernel), by decide +kernel⟩
theorem ww_455 : wd (Jvm.Cond.methodLink "TypedBlood" (146 : Nat) ({ cls := "TypedBlood", name := "patientAt", desc := "(I)LTypedBlood$Patient;" } : Jvm.MethodName)) := ⟨List.mem_of_getElem? (i := 455) (by decide +kernel), by decide +kernel⟩
theorem ww_457 : wd (Jvm.Cond.instanceMethod ({ cls := "TypedBlood", name := "patientAt", desc := "(I)LTypedBlood$Patient;" } : Jvm.MethodName)) := ⟨List.mem_of_getElem? (i := 457) (by decide +kernel), by decide +kernel⟩
theorem ww_458 : wd (Jvm.Cond.code ({ cls := "TypedBlood", name := "patientAt", desc := "(I)LTypedBlood$Patient;" } : Jvm.MethodName) prog_1_method_34_code (2 : Nat) (Option.some (Jvm.ClassFile.FieldType.object "TypedBlood$Patient"))) := ⟨List.mem_of_getElem? (i := 458) (by decide +kernel), by decide +kernel⟩
theorem ww_462 : wd (Jvm.Cond.methodLink "TypedBlood" (157 : Nat) ({ cls := "TypedBlood$Patient", name := "takeSample", desc := "(III)V" } : Jvm.MethodName)) := ⟨List.mem_of_getElem? (i := 462) (by decide +kernel), by decide +kernel⟩
theorem ww_463 : wd (Jvm.Cond.instanceMethod ({ cls := "TypedBlood$Patient", name := "takeSample", desc := "(III)V" } : Jvm.MethodName)) := ⟨List.mem_of_getElem? (i := 463) (by decide +kernel), by decide +kernel⟩
theorem ww_464 : wd (Jvm.Cond.selects "TypedBlood$Patient" ({ cls := "TypedBlood$Patient", name := "takeSample", desc := "(III)V" } : Jvm.MethodName) ({ cls := "TypedBlood$Patient", name := "takeSample", desc := "(III)V" } : Jvm.MethodName)) := ⟨List.mem_of_getElem? (i := 464) (by decide +kernel), by decide +kernel⟩
theorem ww_465 : wd (Jvm.Cond.code ({ cls := "TypedBlood$Patient", name := "takeSample", desc := "(III)V" } : Jvm.MethodName) prog_2_method_2_code (4 : Nat) (Option.none : Option Jvm.ClassFile.FieldType)) := ⟨List.mem_of_getElem? (i := 465) (by decide +kernel), by decide +kernel⟩
theorem ww_466 : wd (Jvm.Cond.methodLink "TypedBloodLaw" (150 : Nat) ({ cls := "TypedBloodLaw", name := "unlock", desc := "(LTypedBlood;III)I" } : Jvm.MethodName)) := ⟨List.mem_of_getElem? (i := 466) (by decide +kernel), by decide +kernel⟩
theorem ww_467 : wd (Jvm.Cond.static ({ cls := "TypedBloodLaw", name := "unlock", desc := "(LTypedBlood;III)I" } : Jvm.MethodName)) := ⟨List.mem_of_getElem? (i := 467) (by decide +kernel), by decide +kernel⟩
theorem ww_468 : wd (Jvm.Cond.codeWith ({ cls := "TypedBloodLaw", name := "unlock", desc := "(LTypedBlood;III)I" } : Jvm.MethodName) method_10_code (5 : Nat) (Option.some Jvm.ClassFile.FieldType.int) [((0 : Nat), (7 : Nat), (10 : Nat), (25 : Nat)), ((0 : Nat), (7 : Nat), (14 : Nat), (13 : Nat)), ((0 : Nat), (7 : Nat), (18 : Nat), (19 : Nat))]) := ⟨List.mem_of_getElem? (i := 468) (by decide +kernel), by decide +kernel⟩
theorem ww_469 : wd (Jvm.Cond.methodLink "TypedBloodLaw" (44 : Nat) ({ cls := "TypedBlood", name := "unlock", desc := "(III)V" } : Jvm.MethodName)) := ⟨List.mem_of_getElem? (i := 469) (by decide +kernel), by decide +kernel⟩
theorem ww_470 : wd (Jvm.Cond.instanceMethod ({ cls := "TypedBlood", name := "unlock", desc := "(III)V" } : Jvm.MethodName)) := ⟨List.mem_of_getElem? (i := 470) (by decide +kernel), by decide +kernel⟩
theorem ww_471 : wd (Jvm.Cond.selects "TypedBlood" ({ cls := "TypedBlood", name := "unlock", desc := "(III)V" } : Jvm.MethodName) ({ cls := "TypedBlood", name := "unlock", desc := "(III)V" } : Jvm.MethodName)) := ⟨List.mem_of_getElem? (i := 471) (by decide +kernel), by decide +kernel⟩
theorem ww_472 : wd (Jvm.Cond.code ({ cls := "TypedBlood", name := "unlock", desc := "(III)V" } : Jvm.MethodName) prog_1_method_9_code (5 : Nat) (Option.none : Option Jvm.ClassFile.FieldType)) := ⟨List.mem_of_getElem? (i := 472) (by decide +kernel), by decide +kernel⟩
theorem ww_474 : wd (Jvm.Cond.methodLink "TypedBlood" (163 : Nat) ({ cls := "TypedBlood$Patient", name := "confirm", desc := "(II)V" } : Jvm.MethodName)) := ⟨List.mem_of_getElem? (i := 474) (by decide +kernel), by decide +kernel⟩
theorem ww_475 : wd (Jvm.Cond.instanceMethod ({ cls := "TypedBlood$Patient", name := "confirm", desc := "(II)V" } : Jvm.MethodName)) := ⟨List.mem_of_getElem? (i := 475) (by decide +kernel), by decide +kernel⟩
theorem ww_476 : wd (Jvm.Cond.selects "TypedBlood$Patient" ({ cls := "TypedBlood$Patient", name := "confirm", desc := "(II)V" } : Jvm.MethodName) ({ cls := "TypedBlood$Patient", name := "confirm", desc := "(II)V" } : Jvm.MethodName)) := ⟨List.mem_of_getElem? (i := 476) (by decide +kernel), by decide +kernel⟩
theorem ww_477 : wd (Jvm.Cond.code ({ cls := "TypedBlood$Patient", name := "confirm", desc := "(II)V" } : Jvm.MethodName) prog_2_method_3_code (3 : Nat) (Option.none : Option Jvm.ClassFile.FieldType)) := ⟨List.mem_of_getElem? (i := 477) (by decide +kernel), by decide +kernel⟩
theorem ww_478 : wd (Jvm.Cond.methodLink "TypedBloodLaw" (153 : Nat) ({ cls := "TypedBloodLaw", name := "antibody", desc := "(LTypedBlood;II[J)I" } : Jvm.MethodName)) := ⟨List.mem_of_getElem? (i := 478) (by decide +kernel), by decide +kernel⟩
theorem ww_479 : wd (Jvm.Cond.static ({ cls := "TypedBloodLaw", name := "antibody", desc := "(LTypedBlood;II[J)I" } : Jvm.MethodName)) := ⟨List.mem_of_getElem? (i := 479) (by decide +kernel), by decide +kernel⟩
theorem ww_480 : wd (Jvm.Cond.codeWith ({ cls := "TypedBloodLaw", name := "antibody", desc := "(LTypedBlood;II[J)I" } : Jvm.MethodName) method_11_code (5 : Nat) (Option.some Jvm.ClassFile.FieldType.int) [((0 : Nat), (10 : Nat), (13 : Nat), (25 : Nat)), ((0 : Nat), (10 : Nat), (17 : Nat), (13 : Nat))]) := ⟨List.mem_of_getElem? (i := 480) (by decide +kernel), by decide +kernel⟩
theorem ww_481 : wd (Jvm.Cond.methodLink "TypedBloodLaw" (47 : Nat) ({ cls := "TypedBlood", name := "antibody", desc := "(II)I" } : Jvm.MethodName)) := ⟨List.mem_of_getElem? (i := 481) (by decide +kernel), by decide +kernel⟩
theorem ww_482 : wd (Jvm.Cond.instanceMethod ({ cls := "TypedBlood", name := "antibody", desc := "(II)I" } : Jvm.MethodName)) := ⟨List.mem_of_getElem? (i := 482) (by decide +kernel), by decide +kernel⟩
theorem ww_483 : wd (Jvm.Cond.selects "TypedBlood" ({ cls := "TypedBlood", name := "antibody", desc := "(II)I" } : Jvm.MethodName) ({ cls := "TypedBlood", name := "antibody", desc := "(II)I" } : Jvm.MethodName)) := ⟨List.mem_of_getElem? (i := 483) (by decide +kernel), by decide +kernel⟩
theorem ww_484 : wd (Jvm.Cond.code ({ cls := "TypedBlood", name := "antibody", desc := "(II)I" } : Jvm.MethodName) prog_1_method_10_code (4 : Nat) (Option.some Jvm.ClassFile.FieldType.int)) := ⟨List.mem_of_getElem? (i := 484) (by decide +kernel), by decide +kernel⟩
theorem ww_486 : wd (Jvm.Cond.methodLink "TypedBlood" (171 : Nat) ({ cls := "java/lang/Integer", name := "bitCount", desc := "(I)I" } : Jvm.MethodName)) := ⟨List.mem_of_getElem? (i := 486) (by decide +kernel), by decide +kernel⟩
theorem ww_487 : wd (Jvm.Cond.static ({ cls := "java/lang/Integer", name := "bitCount", desc := "(I)I" } : Jvm.MethodName)) := ⟨List.mem_of_getElem? (i := 487) (by decide +kernel), by decide +kernel⟩
theorem ww_488 : wd (Jvm.Cond.code ({ cls := "java/lang/Integer", name := "bitCount", desc := "(I)I" } : Jvm.MethodName) prog_12_method_49_code (1 : Nat) (Option.some Jvm.ClassFile.FieldType.int)) := ⟨List.mem_of_getElem? (i := 488) (by decide +kernel), by decide +kernel⟩
theorem ww_489 : wd (Jvm.Cond.constant "java/lang/Integer" (265 : Nat) (1431655765 : Int32)) := ⟨List.mem_of_getElem? (i := 489) (by decide +kernel), by decide +kernel⟩
theorem ww_490 : wd (Jvm.Cond.constant "java/lang/Integer" (266 : Nat) (858993459 : Int32)) := ⟨List.mem_of_getElem? (i := 490) (by decide +kernel), by decide +kernel⟩
theorem ww_491 : wd (Jvm.Cond.constant "java/lang/Integer" (267 : Nat) (252645135 : Int32)) := ⟨List.mem_of_getElem? (i := 491) (by decide +kernel), by decide +kernel⟩
theorem ww_492 : wd (Jvm.Cond.methodLink "TypedBloodLaw" (156 : Nat) ({ cls := "TypedBloodLaw", name := "need", desc := "(LTypedBlood;II[J)I" } : Jvm.MethodName)) := ⟨List.mem_of_getElem? (i := 492) (by decide +kernel), by decide +kernel⟩
theorem ww_493 : wd (Jvm.Cond.static ({ cls := "TypedBloodLaw", name := "need", desc := "(LTypedBlood;II[J)I" } : Jvm.MethodName)) := ⟨List.mem_of_getElem? (i := 493) (by decide +kernel), by decide +kernel⟩
theorem ww_494 : wd (Jvm.Cond.codeWith ({ cls := "TypedBloodLaw", name := "need", desc := "(LTypedBlood;II[J)I" } : Jvm.MethodName) method_12_code (5 : Nat) (Option.some Jvm.ClassFile.FieldType.int) [((0 : Nat), (10 : Nat), (13 : Nat), (25 : Nat)), ((0 : Nat), (10 : Nat), (17 : Nat), (13 : Nat))]) := ⟨List.mem_of_getElem? (i := 494) (by decide +kernel), by decide +kernel⟩
theorem ww_495 : wd (Jvm.Cond.methodLink "TypedBloodLaw" (50 : Nat) ({ cls := "TypedBlood", name := "need", desc := "(II)I" } : Jvm.MethodName)) := ⟨List.mem_of_getElem? (i := 495) (by decide +kernel), by decide +kernel⟩
theorem ww_496 : wd (Jvm.Cond.instanceMethod ({ cls := "TypedBlood", name := "need", desc := "(II)I" } : Jvm.MethodName)) := ⟨List.mem_of_getElem? (i := 496) (by decide +kernel), by decide +kernel⟩
theorem ww_497 : wd (Jvm.Cond.selects "TypedBlood" ({ cls := "TypedBlood", name := "need", desc := "(II)I" } : Jvm.MethodName) ({ cls := "TypedBlood", name := "need", desc := "(II)I" } : Jvm.MethodName)) := ⟨List.mem_of_getElem? (i := 497) (by decide +kernel), by decide +kernel⟩
theorem ww_498 : wd (Jvm.Cond.code ({ cls := "TypedBlood", name := "need", desc := "(II)I" } : Jvm.MethodName) prog_1_method_11_code (5 : Nat) (Option.some Jvm.ClassFile.FieldType.int)) := ⟨List.mem_of_getElem? (i := 498) (by decide +kernel), by decide +kernel⟩
theorem ww_500 : wd (Jvm.Cond.methodLink "TypedBloodLaw" (159 : Nat) ({ cls := "TypedBloodLaw", name := "crossmatch", desc := "(LTypedBlood;IIZ)I" } : Jvm.MethodName)) := ⟨List.mem_of_getElem? (i := 500) (by decide +kernel), by decide +kernel⟩
theorem ww_501 : wd (Jvm.Cond.static ({ cls := "TypedBloodLaw", name := "crossmatch", desc := "(LTypedBlood;IIZ)I" } : Jvm.MethodName)) := ⟨List.mem_of_getElem? (i := 501) (by decide +kernel), by decide +kernel⟩
theorem ww_502 : wd (Jvm.Cond.codeWith ({ cls := "TypedBloodLaw", name := "crossmatch", desc := "(LTypedBlood;IIZ)I" } : Jvm.MethodName) method_13_code (5 : Nat) (Option.some Jvm.ClassFile.FieldType.int) [((0 : Nat), (7 : Nat), (10 : Nat), (25 : Nat)), ((0 : Nat), (7 : Nat), (14 : Nat), (19 : Nat)), ((0 : Nat), (7 : Nat), (18 : Nat), (31 : Nat))]) := ⟨List.mem_of_getElem? (i := 502) (by decide +kernel), by decide +kernel⟩
theorem ww_503 : wd (Jvm.Cond.methodLink "TypedBloodLaw" (53 : Nat) ({ cls := "TypedBlood", name := "crossmatch", desc := "(IIZ)V" } : Jvm.MethodName)) := ⟨List.mem_of_getElem? (i := 503) (by decide +kernel), by decide +kernel⟩
theorem ww_504 : wd (Jvm.Cond.instanceMethod ({ cls := "TypedBlood", name := "crossmatch", desc := "(IIZ)V" } : Jvm.MethodName)) := ⟨List.mem_of_getElem? (i := 504) (by decide +kernel), by decide +kernel⟩
theorem ww_505 : wd (Jvm.Cond.selects "TypedBlood" ({ cls := "TypedBlood", name := "crossmatch", desc := "(IIZ)V" } : Jvm.MethodName) ({ cls := "TypedBlood", name := "crossmatch", desc := "(IIZ)V" } : Jvm.MethodName)) := ⟨List.mem_of_getElem? (i := 505) (by decide +kernel), by decide +kernel⟩
theorem ww_506 : wd (Jvm.Cond.code ({ cls := "TypedBlood", name := "crossmatch", desc := "(IIZ)V" } : Jvm.MethodName) prog_1_method_12_code (6 : Nat) (Option.none : Option Jvm.ClassFile.FieldType)) := ⟨List.mem_of_getElem? (i := 506) (by decide +kernel), by decide +kernel⟩
theorem ww_507 : wd (Jvm.Cond.methodLink "TypedBlood" (182 : Nat) ({ cls := "TypedBlood$Unit", name := "isInHouse", desc := "()Z" } : Jvm.MethodName)) := ⟨List.mem_of_getElem? (i := 507) (by decide +kernel), by decide +kernel⟩
theorem ww_508 : wd (Jvm.Cond.instanceMethod ({ cls := "TypedBlood$Unit", name := "isInHouse", desc := "()Z" } : Jvm.MethodName)) := ⟨List.mem_of_getElem? (i := 508) (by decide +kernel), by decide +kernel⟩
theorem ww_509 : wd (Jvm.Cond.selects "TypedBlood$Unit" ({ cls := "TypedBlood$Unit", name := "isInHouse", desc := "()Z" } : Jvm.MethodName) ({ cls := "TypedBlood$Unit", name := "isInHouse", desc := "()Z" } : Jvm.MethodName)) := ⟨List.mem_of_getElem? (i := 509) (by decide +kernel), by decide +kernel⟩
theorem ww_510 : wd (Jvm.Cond.code ({ cls := "TypedBlood$Unit", name := "isInHouse", desc := "()Z" } : Jvm.MethodName) prog_5_method_4_code (1 : Nat) (Option.some Jvm.ClassFile.FieldType.boolean)) := ⟨List.mem_of_getElem? (i := 510) (by decide +kernel), by decide +kernel⟩
theorem ww_513 : wd (Jvm.Cond.methodLink "TypedBlood" (190 : Nat) ({ cls := "TypedBlood$Patient", name := "noteCrossmatch", desc := "(II)V" } : Jvm.MethodName)) := ⟨List.mem_of_getElem? (i := 513) (by decide +kernel), by decide +kernel⟩
theorem ww_514 : wd (Jvm.Cond.instanceMethod ({ cls := "TypedBlood$Patient", name := "noteCrossmatch", desc := "(II)V" } : Jvm.MethodName)) := ⟨List.mem_of_getElem? (i := 514) (by decide +kernel), by decide +kernel⟩
theorem ww_515 : wd (Jvm.Cond.selects "TypedBlood$Patient" ({ cls := "TypedBlood$Patient", name := "noteCrossmatch", desc := "(II)V" } : Jvm.MethodName) ({ cls := "TypedBlood$Patient", name := "noteCrossmatch", desc := "(II)V" } : Jvm.MethodName)) := ⟨List.mem_of_getElem? (i := 515) (by decide +kernel), by decide +kernel⟩
theorem ww_516 : wd (Jvm.Cond.code ({ cls := "TypedBlood$Patient", name := "noteCrossmatch", desc := "(II)V" } : Jvm.MethodName) prog_2_method_5_code (3 : Nat) (Option.none : Option Jvm.ClassFile.FieldType)) := ⟨List.mem_of_getElem? (i := 516) (by decide +kernel), by decide +kernel⟩
theorem ww_517 : wd (Jvm.Cond.methodLink "TypedBloodLaw" (163 : Nat) ({ cls := "TypedBloodLaw", name := "reserve", desc := "(LTypedBlood;II[J)I" } : Jvm.MethodName)) := ⟨List.mem_of_getElem? (i := 517) (by decide +kernel), by decide +kernel⟩
theorem ww_518 : wd (Jvm.Cond.static ({ cls := "TypedBloodLaw", name := "reserve", desc := "(LTypedBlood;II[J)I" } : Jvm.MethodName)) := ⟨List.mem_of_getElem? (i := 518) (by decide +kernel), by decide +kernel⟩
theorem ww_519 : wd (Jvm.Cond.codeWith ({ cls := "TypedBloodLaw", name := "reserve", desc := "(LTypedBlood;II[J)I" } : Jvm.MethodName) method_14_code (5 : Nat) (Option.some Jvm.ClassFile.FieldType.int) [((0 : Nat), (10 : Nat), (13 : Nat), (25 : Nat)), ((0 : Nat), (10 : Nat), (17 : Nat), (19 : Nat)), ((0 : Nat), (10 : Nat), (21 : Nat), (31 : Nat))]) := ⟨List.mem_of_getElem? (i := 519) (by decide +kernel), by decide +kernel⟩
theorem ww_520 : wd (Jvm.Cond.methodLink "TypedBloodLaw" (57 : Nat) ({ cls := "TypedBlood", name := "reserve", desc := "(II)I" } : Jvm.MethodName)) := ⟨List.mem_of_getElem? (i := 520) (by decide +kernel), by decide +kernel⟩
theorem ww_521 : wd (Jvm.Cond.instanceMethod ({ cls := "TypedBlood", name := "reserve", desc := "(II)I" } : Jvm.MethodName)) := ⟨List.mem_of_getElem? (i := 521) (by decide +kernel), by decide +kernel⟩
theorem ww_522 : wd (Jvm.Cond.selects "TypedBlood" ({ cls := "TypedBlood", name := "reserve", desc := "(II)I" } : Jvm.MethodName) ({ cls := "TypedBlood", name := "reserve", desc := "(II)I" } : Jvm.MethodName)) := ⟨List.mem_of_getElem? (i := 522) (by decide +kernel), by decide +kernel⟩
theorem ww_523 : wd (Jvm.Cond.code ({ cls := "TypedBlood", name := "reserve", desc := "(II)I" } : Jvm.MethodName) prog_1_method_13_code (5 : Nat) (Option.some Jvm.ClassFile.FieldType.int)) := ⟨List.mem_of_getElem? (i := 523) (by decide +kernel), by decide +kernel⟩
theorem ww_525 : wd (Jvm.Cond.methodLink "TypedBlood" (195 : Nat) ({ cls := "TypedBlood", name := "isCleared", desc := "(LTypedBlood$Patient;LTypedBlood$Unit;I)Z" } : Jvm.MethodName)) := ⟨List.mem_of_getElem? (i := 525) (by decide +kernel), by decide +kernel⟩
theorem ww_527 : wd (Jvm.Cond.instanceMethod ({ cls := "TypedBlood", name := "isCleared", desc := "(LTypedBlood$Patient;LTypedBlood$Unit;I)Z" } : Jvm.MethodName)) := ⟨List.mem_of_getElem? (i := 527) (by decide +kernel), by decide +kernel⟩
theorem ww_528 : wd (Jvm.Cond.code ({ cls := "TypedBlood", name := "isCleared", desc := "(LTypedBlood$Patient;LTypedBlood$Unit;I)Z" } : Jvm.MethodName) prog_1_method_39_code (5 : Nat) (Option.some Jvm.ClassFile.FieldType.boolean)) := ⟨List.mem_of_getElem? (i := 528) (by decide +kernel), by decide +kernel⟩
theorem ww_529 : wd (Jvm.Cond.methodLink "TypedBlood" (325 : Nat) ({ cls := "TypedBlood$Patient", name := "hasValidCrossmatch", desc := "(II)Z" } : Jvm.MethodName)) := ⟨List.mem_of_getElem? (i := 529) (by decide +kernel), by decide +kernel⟩
theorem ww_530 : wd (Jvm.Cond.instanceMethod ({ cls := "TypedBlood$Patient", name := "hasValidCrossmatch", desc := "(II)Z" } : Jvm.MethodName)) := ⟨List.mem_of_getElem? (i := 530) (by decide +kernel), by decide +kernel⟩
theorem ww_531 : wd (Jvm.Cond.selects "TypedBlood$Patient" ({ cls := "TypedBlood$Patient", name := "hasValidCrossmatch", desc := "(II)Z" } : Jvm.MethodName) ({ cls := "TypedBlood$Patient", name := "hasValidCrossmatch", desc := "(II)Z" } : Jvm.MethodName)) := ⟨List.mem_of_getElem? (i := 531) (by decide +kernel), by decide +kernel⟩
theorem ww_532 : wd (Jvm.Cond.code ({ cls := "TypedBlood$Patient", name := "hasValidCrossmatch", desc := "(II)Z" } : Jvm.MethodName) prog_2_method_6_code (3 : Nat) (Option.some Jvm.ClassFile.FieldType.boolean)) := ⟨List.mem_of_getElem? (i := 532) (by decide +kernel), by decide +kernel⟩
theorem ww_533 : wd (Jvm.Cond.methodLink "TypedBlood" (233 : Nat) ({ cls := "TypedBlood$Rules", name := "reason", desc := "(LTypedBlood$Patient;LTypedBlood$Unit;)I" } : Jvm.MethodName)) := ⟨List.mem_of_getElem? (i := 533) (by decide +kernel), by decide +kernel⟩
theorem ww_534 : wd (Jvm.Cond.static ({ cls := "TypedBlood$Rules", name := "reason", desc := "(LTypedBlood$Patient;LTypedBlood$Unit;)I" } : Jvm.MethodName)) := ⟨List.mem_of_getElem? (i := 534) (by decide +kernel), by decide +kernel⟩
theorem ww_535 : wd (Jvm.Cond.code ({ cls := "TypedBlood$Rules", name := "reason", desc := "(LTypedBlood$Patient;LTypedBlood$Unit;)I" } : Jvm.MethodName) prog_4_method_2_code (2 : Nat) (Option.some Jvm.ClassFile.FieldType.int)) := ⟨List.mem_of_getElem? (i := 535) (by decide +kernel), by decide +kernel⟩
theorem ww_536 : wd (Jvm.Cond.methodLink "TypedBlood$Rules" (15 : Nat) ({ cls := "TypedBlood$Rules", name := "groupFits", desc := "(LTypedBlood$Patient;LTypedBlood$Unit;)Z" } : Jvm.MethodName)) := ⟨List.mem_of_getElem? (i := 536) (by decide +kernel), by decide +kernel⟩
theorem ww_537 : wd (Jvm.Cond.static ({ cls := "TypedBlood$Rules", name := "groupFits", desc := "(LTypedBlood$Patient;LTypedBlood$Unit;)Z" } : Jvm.MethodName)) := ⟨List.mem_of_getElem? (i := 537) (by decide +kernel), by decide +kernel⟩
theorem ww_538 : wd (Jvm.Cond.code ({ cls := "TypedBlood$Rules", name := "groupFits", desc := "(LTypedBlood$Patient;LTypedBlood$Unit;)Z" } : Jvm.MethodName) prog_4_method_3_code (2 : Nat) (Option.some Jvm.ClassFile.FieldType.boolean)) := ⟨List.mem_of_getElem? (i := 538) (by decide +kernel), by decide +kernel⟩
theorem ww_539 : wd (Jvm.Cond.methodLink "TypedBlood$Rules" (45 : Nat) ({ cls := "TypedBlood$Patient", name := "groupOr", desc := "(I)I" } : Jvm.MethodName)) := ⟨List.mem_of_getElem? (i := 539) (by decide +kernel), by decide +kernel⟩
theorem ww_540 : wd (Jvm.Cond.instanceMethod ({ cls := "TypedBlood$Patient", name := "groupOr", desc := "(I)I" } : Jvm.MethodName)) := ⟨List.mem_of_getElem? (i := 540) (by decide +kernel), by decide +kernel⟩
theorem ww_541 : wd (Jvm.Cond.selects "TypedBlood$Patient" ({ cls := "TypedBlood$Patient", name := "groupOr", desc := "(I)I" } : Jvm.MethodName) ({ cls := "TypedBlood$Patient", name := "groupOr", desc := "(I)I" } : Jvm.MethodName)) := ⟨List.mem_of_getElem? (i := 541) (by decide +kernel), by decide +kernel⟩
theorem ww_542 : wd (Jvm.Cond.code ({ cls := "TypedBlood$Patient", name := "groupOr", desc := "(I)I" } : Jvm.MethodName) prog_2_method_7_code (2 : Nat) (Option.some Jvm.ClassFile.FieldType.int)) := ⟨List.mem_of_getElem? (i := 542) (by decide +kernel), by decide +kernel⟩
theorem ww_543 : wd (Jvm.Cond.methodLink "TypedBlood$Rules" (24 : Nat) ({ cls := "TypedBlood$Patient", name := "isConfirmedWithRhesus", desc := "()Z" } : Jvm.MethodName)) := ⟨List.mem_of_getElem? (i := 543) (by decide +kernel), by decide +kernel⟩
theorem ww_544 : wd (Jvm.Cond.instanceMethod ({ cls := "TypedBlood$Patient", name := "isConfirmedWithRhesus", desc := "()Z" } : Jvm.MethodName)) := ⟨List.mem_of_getElem? (i := 544) (by decide +kernel), by decide +kernel⟩
theorem ww_545 : wd (Jvm.Cond.selects "TypedBlood$Patient" ({ cls := "TypedBlood$Patient", name := "isConfirmedWithRhesus", desc := "()Z" } : Jvm.MethodName) ({ cls := "TypedBlood$Patient", name := "isConfirmedWithRhesus", desc := "()Z" } : Jvm.MethodName)) := ⟨List.mem_of_getElem? (i := 545) (by decide +kernel), by decide +kernel⟩
theorem ww_546 : wd (Jvm.Cond.code ({ cls := "TypedBlood$Patient", name := "isConfirmedWithRhesus", desc := "()Z" } : Jvm.MethodName) prog_2_method_8_code (1 : Nat) (Option.some Jvm.ClassFile.FieldType.boolean)) := ⟨List.mem_of_getElem? (i := 546) (by decide +kernel), by decide +kernel⟩
theorem ww_548 : wd (Jvm.Cond.methodLink "TypedBlood" (201 : Nat) ({ cls := "TypedBlood$Unit", name := "reserveFor", desc := "(II)V" } : Jvm.MethodName)) := ⟨List.mem_of_getElem? (i := 548) (by decide +kernel), by decide +kernel⟩
theorem ww_549 : wd (Jvm.Cond.instanceMethod ({ cls := "TypedBlood$Unit", name := "reserveFor", desc := "(II)V" } : Jvm.MethodName)) := ⟨List.mem_of_getElem? (i := 549) (by decide +kernel), by decide +kernel⟩
theorem ww_550 : wd (Jvm.Cond.selects "TypedBlood$Unit" ({ cls := "TypedBlood$Unit", name := "reserveFor", desc := "(II)V" } : Jvm.MethodName) ({ cls := "TypedBlood$Unit", name := "reserveFor", desc := "(II)V" } : Jvm.MethodName)) := ⟨List.mem_of_getElem? (i := 550) (by decide +kernel), by decide +kernel⟩
theorem ww_551 : wd (Jvm.Cond.code ({ cls := "TypedBlood$Unit", name := "reserveFor", desc := "(II)V" } : Jvm.MethodName) prog_5_method_9_code (3 : Nat) (Option.none : Option Jvm.ClassFile.FieldType)) := ⟨List.mem_of_getElem? (i := 551) (by decide +kernel), by decide +kernel⟩
theorem ww_552 : wd (Jvm.Cond.methodLink "TypedBloodLaw" (166 : Nat) ({ cls := "TypedBloodLaw", name := "release", desc := "(LTypedBlood;I[J)I" } : Jvm.MethodName)) := ⟨List.mem_of_getElem? (i := 552) (by decide +kernel), by decide +kernel⟩
theorem ww_553 : wd (Jvm.Cond.static ({ cls := "TypedBloodLaw", name := "release", desc := "(LTypedBlood;I[J)I" } : Jvm.MethodName)) := ⟨List.mem_of_getElem? (i := 553) (by decide +kernel), by decide +kernel⟩
theorem ww_554 : wd (Jvm.Cond.codeWith ({ cls := "TypedBloodLaw", name := "release", desc := "(LTypedBlood;I[J)I" } : Jvm.MethodName) method_15_code (4 : Nat) (Option.some Jvm.ClassFile.FieldType.int) [((0 : Nat), (9 : Nat), (12 : Nat), (25 : Nat)), ((0 : Nat), (9 : Nat), (15 : Nat), (19 : Nat))]) := ⟨List.mem_of_getElem? (i := 554) (by decide +kernel), by decide +kernel⟩
theorem ww_555 : wd (Jvm.Cond.methodLink "TypedBloodLaw" (60 : Nat) ({ cls := "TypedBlood", name := "release", desc := "(I)I" } : Jvm.MethodName)) := ⟨List.mem_of_getElem? (i := 555) (by decide +kernel), by decide +kernel⟩
theorem ww_556 : wd (Jvm.Cond.instanceMethod ({ cls := "TypedBlood", name := "release", desc := "(I)I" } : Jvm.MethodName)) := ⟨List.mem_of_getElem? (i := 556) (by decide +kernel), by decide +kernel⟩
theorem ww_557 : wd (Jvm.Cond.selects "TypedBlood" ({ cls := "TypedBlood", name := "release", desc := "(I)I" } : Jvm.MethodName) ({ cls := "TypedBlood", name := "release", desc := "(I)I" } : Jvm.MethodName)) := ⟨List.mem_of_getElem? (i := 557) (by decide +kernel), by decide +kernel⟩
theorem ww_558 : wd (Jvm.Cond.code ({ cls := "TypedBlood", name := "release", desc := "(I)I" } : Jvm.MethodName) prog_1_method_14_code (4 : Nat) (Option.some Jvm.ClassFile.FieldType.int)) := ⟨List.mem_of_getElem? (i := 558) (by decide +kernel), by decide +kernel⟩
theorem ww_560 : wd (Jvm.Cond.methodLink "TypedBlood" (212 : Nat) ({ cls := "TypedBlood$Unit", name := "store", desc := "()V" } : Jvm.MethodName)) := ⟨List.mem_of_getElem? (i := 560) (by decide +kernel), by decide +kernel⟩
theorem ww_561 : wd (Jvm.Cond.methodLink "TypedBloodLaw" (169 : Nat) ({ cls := "TypedBloodLaw", name := "issue", desc := "(LTypedBlood;II[J)I" } : Jvm.MethodName)) := ⟨List.mem_of_getElem? (i := 561) (by decide +kernel), by decide +kernel⟩
theorem ww_562 : wd (Jvm.Cond.static ({ cls := "TypedBloodLaw", name := "issue", desc := "(LTypedBlood;II[J)I" } : Jvm.MethodName)) := ⟨List.mem_of_getElem? (i := 562) (by decide +kernel), by decide +kernel⟩
theorem ww_563 : wd (Jvm.Cond.codeWith ({ cls := "TypedBloodLaw", name := "issue", desc := "(LTypedBlood;II[J)I" } : Jvm.MethodName) method_16_code (5 : Nat) (Option.some Jvm.ClassFile.FieldType.int) [((0 : Nat), (10 : Nat), (13 : Nat), (25 : Nat)), ((0 : Nat), (10 : Nat), (17 : Nat), (19 : Nat)), ((0 : Nat), (10 : Nat), (21 : Nat), (31 : Nat))]) := ⟨List.mem_of_getElem? (i := 563) (by decide +kernel), by decide +kernel⟩
theorem ww_564 : wd (Jvm.Cond.methodLink "TypedBloodLaw" (63 : Nat) ({ cls := "TypedBlood", name := "issue", desc := "(II)I" } : Jvm.MethodName)) := ⟨List.mem_of_getElem? (i := 564) (by decide +kernel), by decide +kernel⟩
theorem ww_565 : wd (Jvm.Cond.instanceMethod ({ cls := "TypedBlood", name := "issue", desc := "(II)I" } : Jvm.MethodName)) := ⟨List.mem_of_getElem? (i := 565) (by decide +kernel), by decide +kernel⟩
theorem ww_566 : wd (Jvm.Cond.selects "TypedBlood" ({ cls := "TypedBlood", name := "issue", desc := "(II)I" } : Jvm.MethodName) ({ cls := "TypedBlood", name := "issue", desc := "(II)I" } : Jvm.MethodName)) := ⟨List.mem_of_getElem? (i := 566) (by decide +kernel), by decide +kernel⟩
theorem ww_567 : wd (Jvm.Cond.code ({ cls := "TypedBlood", name := "issue", desc := "(II)I" } : Jvm.MethodName) prog_1_method_15_code (5 : Nat) (Option.some Jvm.ClassFile.FieldType.int)) := ⟨List.mem_of_getElem? (i := 567) (by decide +kernel), by decide +kernel⟩
theorem ww_568 : wd (Jvm.Cond.methodLink "TypedBlood" (215 : Nat) ({ cls := "TypedBlood", name := "mayLeaveFor", desc := "(ILTypedBlood$Unit;)Z" } : Jvm.MethodName)) := ⟨List.mem_of_getElem? (i := 568) (by decide +kernel), by decide +kernel⟩
theorem ww_570 : wd (Jvm.Cond.instanceMethod ({ cls := "TypedBlood", name := "mayLeaveFor", desc := "(ILTypedBlood$Unit;)Z" } : Jvm.MethodName)) := ⟨List.mem_of_getElem? (i := 570) (by decide +kernel), by decide +kernel⟩
theorem ww_571 : wd (Jvm.Cond.code ({ cls := "TypedBlood", name := "mayLeaveFor", desc := "(ILTypedBlood$Unit;)Z" } : Jvm.MethodName) prog_1_method_38_code (4 : Nat) (Option.some Jvm.ClassFile.FieldType.boolean)) := ⟨List.mem_of_getElem? (i := 571) (by decide +kernel), by decide +kernel⟩
theorem ww_572 : wd (Jvm.Cond.methodLink "TypedBlood" (219 : Nat) ({ cls := "TypedBlood$Patient", name := "hasFreshSample", desc := "(I)Z" } : Jvm.MethodName)) := ⟨List.mem_of_getElem? (i := 572) (by decide +kernel), by decide +kernel⟩
theorem ww_573 : wd (Jvm.Cond.instanceMethod ({ cls := "TypedBlood$Patient", name := "hasFreshSample", desc := "(I)Z" } : Jvm.MethodName)) := ⟨List.mem_of_getElem? (i := 573) (by decide +kernel), by decide +kernel⟩
theorem ww_574 : wd (Jvm.Cond.selects "TypedBlood$Patient" ({ cls := "TypedBlood$Patient", name := "hasFreshSample", desc := "(I)Z" } : Jvm.MethodName) ({ cls := "TypedBlood$Patient", name := "hasFreshSample", desc := "(I)Z" } : Jvm.MethodName)) := ⟨List.mem_of_getElem? (i := 574) (by decide +kernel), by decide +kernel⟩
theorem ww_575 : wd (Jvm.Cond.code ({ cls := "TypedBlood$Patient", name := "hasFreshSample", desc := "(I)Z" } : Jvm.MethodName) prog_2_method_4_code (2 : Nat) (Option.some Jvm.ClassFile.FieldType.boolean)) := ⟨List.mem_of_getElem? (i := 575) (by decide +kernel), by decide +kernel⟩
theorem ww_577 : wd (Jvm.Cond.methodLink "TypedBlood" (224 : Nat) ({ cls := "TypedBlood", name := "handOver", desc := "(LTypedBlood$Unit;II)I" } : Jvm.MethodName)) := ⟨List.mem_of_getElem? (i := 577) (by decide +kernel), by decide +kernel⟩
theorem ww_579 : wd (Jvm.Cond.instanceMethod ({ cls := "TypedBlood", name := "handOver", desc := "(LTypedBlood$Unit;II)I" } : Jvm.MethodName)) := ⟨List.mem_of_getElem? (i := 579) (by decide +kernel), by decide +kernel⟩
theorem ww_580 : wd (Jvm.Cond.code ({ cls := "TypedBlood", name := "handOver", desc := "(LTypedBlood$Unit;II)I" } : Jvm.MethodName) prog_1_method_40_code (6 : Nat) (Option.some Jvm.ClassFile.FieldType.int)) := ⟨List.mem_of_getElem? (i := 580) (by decide +kernel), by decide +kernel⟩
theorem ww_581 : wd (Jvm.Cond.methodLink "TypedBlood" (331 : Nat) ({ cls := "TypedBlood$Unit", name := "issueTo", desc := "(IIII)V" } : Jvm.MethodName)) := ⟨List.mem_of_getElem? (i := 581) (by decide +kernel), by decide +kernel⟩
theorem ww_582 : wd (Jvm.Cond.instanceMethod ({ cls := "TypedBlood$Unit", name := "issueTo", desc := "(IIII)V" } : Jvm.MethodName)) := ⟨List.mem_of_getElem? (i := 582) (by decide +kernel), by decide +kernel⟩
theorem ww_583 : wd (Jvm.Cond.selects "TypedBlood$Unit" ({ cls := "TypedBlood$Unit", name := "issueTo", desc := "(IIII)V" } : Jvm.MethodName) ({ cls := "TypedBlood$Unit", name := "issueTo", desc := "(IIII)V" } : Jvm.MethodName)) := ⟨List.mem_of_getElem? (i := 583) (by decide +kernel), by decide +kernel⟩
theorem ww_584 : wd (Jvm.Cond.code ({ cls := "TypedBlood$Unit", name := "issueTo", desc := "(IIII)V" } : Jvm.MethodName) prog_5_method_12_code (5 : Nat) (Option.none : Option Jvm.ClassFile.FieldType)) := ⟨List.mem_of_getElem? (i := 584) (by decide +kernel), by decide +kernel⟩
theorem ww_585 : wd (Jvm.Cond.methodLink "TypedBlood" (307 : Nat) ({ cls := "TypedBlood$Unit", name := "wentTo", desc := "(I)Z" } : Jvm.MethodName)) := ⟨List.mem_of_getElem? (i := 585) (by decide +kernel), by decide +kernel⟩
theorem ww_586 : wd (Jvm.Cond.instanceMethod ({ cls := "TypedBlood$Unit", name := "wentTo", desc := "(I)Z" } : Jvm.MethodName)) := ⟨List.mem_of_getElem? (i := 586) (by decide +kernel), by decide +kernel⟩
theorem ww_587 : wd (Jvm.Cond.selects "TypedBlood$Unit" ({ cls := "TypedBlood$Unit", name := "wentTo", desc := "(I)Z" } : Jvm.MethodName) ({ cls := "TypedBlood$Unit", name := "wentTo", desc := "(I)Z" } : Jvm.MethodName)) := ⟨List.mem_of_getElem? (i := 587) (by decide +kernel), by decide +kernel⟩
theorem ww_588 : wd (Jvm.Cond.code ({ cls := "TypedBlood$Unit", name := "wentTo", desc := "(I)Z" } : Jvm.MethodName) prog_5_method_6_code (2 : Nat) (Option.some Jvm.ClassFile.FieldType.boolean)) := ⟨List.mem_of_getElem? (i := 588) (by decide +kernel), by decide +kernel⟩
theorem ww_589 : wd (Jvm.Cond.methodLink "TypedBloodLaw" (172 : Nat) ({ cls := "TypedBloodLaw", name := "emergency", desc := "(LTypedBlood;III[J)I" } : Jvm.MethodName)) := ⟨List.mem_of_getElem? (i := 589) (by decide +kernel), by decide +kernel⟩
theorem ww_590 : wd (Jvm.Cond.static ({ cls := "TypedBloodLaw", name := "emergency", desc := "(LTypedBlood;III[J)I" } : Jvm.MethodName)) := ⟨List.mem_of_getElem? (i := 590) (by decide +kernel), by decide +kernel⟩
theorem ww_591 : wd (Jvm.Cond.codeWith ({ cls := "TypedBloodLaw", name := "emergency", desc := "(LTypedBlood;III[J)I" } : Jvm.MethodName) method_17_code (6 : Nat) (Option.some Jvm.ClassFile.FieldType.int) [((0 : Nat), (12 : Nat), (15 : Nat), (25 : Nat)), ((0 : Nat), (12 : Nat), (19 : Nat), (13 : Nat)), ((0 : Nat), (12 : Nat), (23 : Nat), (19 : Nat)), ((0 : Nat), (12 : Nat), (27 : Nat), (31 : Nat))]) := ⟨List.mem_of_getElem? (i := 591) (by decide +kernel), by decide +kernel⟩
theorem ww_592 : wd (Jvm.Cond.methodLink "TypedBloodLaw" (66 : Nat) ({ cls := "TypedBlood", name := "emergency", desc := "(III)I" } : Jvm.MethodName)) := ⟨List.mem_of_getElem? (i := 592) (by decide +kernel), by decide +kernel⟩
theorem ww_593 : wd (Jvm.Cond.instanceMethod ({ cls := "TypedBlood", name := "emergency", desc := "(III)I" } : Jvm.MethodName)) := ⟨List.mem_of_getElem? (i := 593) (by decide +kernel), by decide +kernel⟩
theorem ww_594 : wd (Jvm.Cond.selects "TypedBlood" ({ cls := "TypedBlood", name := "emergency", desc := "(III)I" } : Jvm.MethodName) ({ cls := "TypedBlood", name := "emergency", desc := "(III)I" } : Jvm.MethodName)) := ⟨List.mem_of_getElem? (i := 594) (by decide +kernel), by decide +kernel⟩
theorem ww_595 : wd (Jvm.Cond.code ({ cls := "TypedBlood", name := "emergency", desc := "(III)I" } : Jvm.MethodName) prog_1_method_16_code (6 : Nat) (Option.some Jvm.ClassFile.FieldType.int)) := ⟨List.mem_of_getElem? (i := 595) (by decide +kernel), by decide +kernel⟩
theorem ww_597 : wd (Jvm.Cond.methodLink "TypedBlood" (230 : Nat) ({ cls := "TypedBlood$Unit", name := "isForEmergencies", desc := "()Z" } : Jvm.MethodName)) := ⟨List.mem_of_getElem? (i := 597) (by decide +kernel), by decide +kernel⟩
theorem ww_598 : wd (Jvm.Cond.instanceMethod ({ cls := "TypedBlood$Unit", name := "isForEmergencies", desc := "()Z" } : Jvm.MethodName)) := ⟨List.mem_of_getElem? (i := 598) (by decide +kernel), by decide +kernel⟩
theorem ww_599 : wd (Jvm.Cond.selects "TypedBlood$Unit" ({ cls := "TypedBlood$Unit", name := "isForEmergencies", desc := "()Z" } : Jvm.MethodName) ({ cls := "TypedBlood$Unit", name := "isForEmergencies", desc := "()Z" } : Jvm.MethodName)) := ⟨List.mem_of_getElem? (i := 599) (by decide +kernel), by decide +kernel⟩
theorem ww_600 : wd (Jvm.Cond.code ({ cls := "TypedBlood$Unit", name := "isForEmergencies", desc := "()Z" } : Jvm.MethodName) prog_5_method_5_code (1 : Nat) (Option.some Jvm.ClassFile.FieldType.boolean)) := ⟨List.mem_of_getElem? (i := 600) (by decide +kernel), by decide +kernel⟩
theorem ww_602 : wd (Jvm.Cond.methodLink "TypedBloodLaw" (175 : Nat) ({ cls := "TypedBloodLaw", name := "giveBack", desc := "(LTypedBlood;I[J)I" } : Jvm.MethodName)) := ⟨List.mem_of_getElem? (i := 602) (by decide +kernel), by decide +kernel⟩
theorem ww_603 : wd (Jvm.Cond.static ({ cls := "TypedBloodLaw", name := "giveBack", desc := "(LTypedBlood;I[J)I" } : Jvm.MethodName)) := ⟨List.mem_of_getElem? (i := 603) (by decide +kernel), by decide +kernel⟩
theorem ww_604 : wd (Jvm.Cond.codeWith ({ cls := "TypedBloodLaw", name := "giveBack", desc := "(LTypedBlood;I[J)I" } : Jvm.MethodName) method_18_code (4 : Nat) (Option.some Jvm.ClassFile.FieldType.int) [((0 : Nat), (9 : Nat), (12 : Nat), (25 : Nat)), ((0 : Nat), (9 : Nat), (15 : Nat), (19 : Nat))]) := ⟨List.mem_of_getElem? (i := 604) (by decide +kernel), by decide +kernel⟩
theorem ww_605 : wd (Jvm.Cond.methodLink "TypedBloodLaw" (69 : Nat) ({ cls := "TypedBlood", name := "giveBack", desc := "(I)I" } : Jvm.MethodName)) := ⟨List.mem_of_getElem? (i := 605) (by decide +kernel), by decide +kernel⟩
theorem ww_606 : wd (Jvm.Cond.instanceMethod ({ cls := "TypedBlood", name := "giveBack", desc := "(I)I" } : Jvm.MethodName)) := ⟨List.mem_of_getElem? (i := 606) (by decide +kernel), by decide +kernel⟩
theorem ww_607 : wd (Jvm.Cond.selects "TypedBlood" ({ cls := "TypedBlood", name := "giveBack", desc := "(I)I" } : Jvm.MethodName) ({ cls := "TypedBlood", name := "giveBack", desc := "(I)I" } : Jvm.MethodName)) := ⟨List.mem_of_getElem? (i := 607) (by decide +kernel), by decide +kernel⟩
theorem ww_608 : wd (Jvm.Cond.code ({ cls := "TypedBlood", name := "giveBack", desc := "(I)I" } : Jvm.MethodName) prog_1_method_17_code (4 : Nat) (Option.some Jvm.ClassFile.FieldType.int)) := ⟨List.mem_of_getElem? (i := 608) (by decide +kernel), by decide +kernel⟩
theorem ww_610 : wd (Jvm.Cond.methodLink "TypedBloodLaw" (178 : Nat) ({ cls := "TypedBloodLaw", name := "transfused", desc := "(LTypedBlood;I[J)I" } : Jvm.MethodName)) := ⟨List.mem_of_getElem? (i := 610) (by decide +kernel), by decide +kernel⟩
theorem ww_611 : wd (Jvm.Cond.static ({ cls := "TypedBloodLaw", name := "transfused", desc := "(LTypedBlood;I[J)I" } : Jvm.MethodName)) := ⟨List.mem_of_getElem? (i := 611) (by decide +kernel), by decide +kernel⟩
theorem ww_612 : wd (Jvm.Cond.codeWith ({ cls := "TypedBloodLaw", name := "transfused", desc := "(LTypedBlood;I[J)I" } : Jvm.MethodName) method_19_code (4 : Nat) (Option.some Jvm.ClassFile.FieldType.int) [((0 : Nat), (9 : Nat), (12 : Nat), (25 : Nat)), ((0 : Nat), (9 : Nat), (15 : Nat), (19 : Nat))]) := ⟨List.mem_of_getElem? (i := 612) (by decide +kernel), by decide +kernel⟩
theorem ww_613 : wd (Jvm.Cond.methodLink "TypedBloodLaw" (72 : Nat) ({ cls := "TypedBlood", name := "transfused", desc := "(I)I" } : Jvm.MethodName)) := ⟨List.mem_of_getElem? (i := 613) (by decide +kernel), by decide +kernel⟩
theorem ww_614 : wd (Jvm.Cond.instanceMethod ({ cls := "TypedBlood", name := "transfused", desc := "(I)I" } : Jvm.MethodName)) := ⟨List.mem_of_getElem? (i := 614) (by decide +kernel), by decide +kernel⟩
theorem ww_615 : wd (Jvm.Cond.selects "TypedBlood" ({ cls := "TypedBlood", name := "transfused", desc := "(I)I" } : Jvm.MethodName) ({ cls := "TypedBlood", name := "transfused", desc := "(I)I" } : Jvm.MethodName)) := ⟨List.mem_of_getElem? (i := 615) (by decide +kernel), by decide +kernel⟩
theorem ww_616 : wd (Jvm.Cond.code ({ cls := "TypedBlood", name := "transfused", desc := "(I)I" } : Jvm.MethodName) prog_1_method_18_code (3 : Nat) (Option.some Jvm.ClassFile.FieldType.int)) := ⟨List.mem_of_getElem? (i := 616) (by decide +kernel), by decide +kernel⟩
theorem ww_618 : wd (Jvm.Cond.methodLink "TypedBloodLaw" (181 : Nat) ({ cls := "TypedBloodLaw", name := "discard", desc := "(LTypedBlood;II[J)I" } : Jvm.MethodName)) := ⟨List.mem_of_getElem? (i := 618) (by decide +kernel), by decide +kernel⟩
theorem ww_619 : wd (Jvm.Cond.static ({ cls := "TypedBloodLaw", name := "discard", desc := "(LTypedBlood;II[J)I" } : Jvm.MethodName)) := ⟨List.mem_of_getElem? (i := 619) (by decide +kernel), by decide +kernel⟩
theorem ww_620 : wd (Jvm.Cond.codeWith ({ cls := "TypedBloodLaw", name := "discard", desc := "(LTypedBlood;II[J)I" } : Jvm.MethodName) method_20_code (5 : Nat) (Option.some Jvm.ClassFile.FieldType.int) [((0 : Nat), (10 : Nat), (13 : Nat), (25 : Nat)), ((0 : Nat), (10 : Nat), (17 : Nat), (13 : Nat)), ((0 : Nat), (10 : Nat), (21 : Nat), (19 : Nat))]) := ⟨List.mem_of_getElem? (i := 620) (by decide +kernel), by decide +kernel⟩
theorem ww_621 : wd (Jvm.Cond.methodLink "TypedBloodLaw" (75 : Nat) ({ cls := "TypedBlood", name := "discard", desc := "(II)I" } : Jvm.MethodName)) := ⟨List.mem_of_getElem? (i := 621) (by decide +kernel), by decide +kernel⟩
theorem ww_622 : wd (Jvm.Cond.instanceMethod ({ cls := "TypedBlood", name := "discard", desc := "(II)I" } : Jvm.MethodName)) := ⟨List.mem_of_getElem? (i := 622) (by decide +kernel), by decide +kernel⟩
theorem ww_623 : wd (Jvm.Cond.selects "TypedBlood" ({ cls := "TypedBlood", name := "discard", desc := "(II)I" } : Jvm.MethodName) ({ cls := "TypedBlood", name := "discard", desc := "(II)I" } : Jvm.MethodName)) := ⟨List.mem_of_getElem? (i := 623) (by decide +kernel), by decide +kernel⟩
theorem ww_624 : wd (Jvm.Cond.code ({ cls := "TypedBlood", name := "discard", desc := "(II)I" } : Jvm.MethodName) prog_1_method_19_code (5 : Nat) (Option.some Jvm.ClassFile.FieldType.int)) := ⟨List.mem_of_getElem? (i := 624) (by decide +kernel), by decide +kernel⟩
theorem ww_627 : wd (Jvm.Cond.methodLink "TypedBlood" (252 : Nat) ({ cls := "TypedBlood$Unit", name := "throwAway", desc := "(I)V" } : Jvm.MethodName)) := ⟨List.mem_of_getElem? (i := 627) (by decide +kernel), by decide +kernel⟩
theorem ww_628 : wd (Jvm.Cond.instanceMethod ({ cls := "TypedBlood$Unit", name := "throwAway", desc := "(I)V" } : Jvm.MethodName)) := ⟨List.mem_of_getElem? (i := 628) (by decide +kernel), by decide +kernel⟩
theorem ww_629 : wd (Jvm.Cond.selects "TypedBlood$Unit" ({ cls := "TypedBlood$Unit", name := "throwAway", desc := "(I)V" } : Jvm.MethodName) ({ cls := "TypedBlood$Unit", name := "throwAway", desc := "(I)V" } : Jvm.MethodName)) := ⟨List.mem_of_getElem? (i := 629) (by decide +kernel), by decide +kernel⟩
theorem ww_630 : wd (Jvm.Cond.code ({ cls := "TypedBlood$Unit", name := "throwAway", desc := "(I)V" } : Jvm.MethodName) prog_5_method_13_code (2 : Nat) (Option.none : Option Jvm.ClassFile.FieldType)) := ⟨List.mem_of_getElem? (i := 630) (by decide +kernel), by decide +kernel⟩
theorem ww_631 : wd (Jvm.Cond.methodLink "TypedBloodLaw" (184 : Nat) ({ cls := "TypedBloodLaw", name := "quarantine", desc := "(LTypedBlood;IZ[J)I" } : Jvm.MethodName)) := ⟨List.mem_of_getElem? (i := 631) (by decide +kernel), by decide +kernel⟩
theorem ww_632 : wd (Jvm.Cond.static ({ cls := "TypedBloodLaw", name := "quarantine", desc := "(LTypedBlood;IZ[J)I" } : Jvm.MethodName)) := ⟨List.mem_of_getElem? (i := 632) (by decide +kernel), by decide +kernel⟩
theorem ww_633 : wd (Jvm.Cond.codeWith ({ cls := "TypedBloodLaw", name := "quarantine", desc := "(LTypedBlood;IZ[J)I" } : Jvm.MethodName) method_21_code (5 : Nat) (Option.some Jvm.ClassFile.FieldType.int) [((0 : Nat), (10 : Nat), (13 : Nat), (13 : Nat))]) := ⟨List.mem_of_getElem? (i := 633) (by decide +kernel), by decide +kernel⟩
theorem ww_634 : wd (Jvm.Cond.methodLink "TypedBloodLaw" (78 : Nat) ({ cls := "TypedBlood", name := "quarantine", desc := "(IZ)I" } : Jvm.MethodName)) := ⟨List.mem_of_getElem? (i := 634) (by decide +kernel), by decide +kernel⟩
theorem ww_635 : wd (Jvm.Cond.instanceMethod ({ cls := "TypedBlood", name := "quarantine", desc := "(IZ)I" } : Jvm.MethodName)) := ⟨List.mem_of_getElem? (i := 635) (by decide +kernel), by decide +kernel⟩
theorem ww_636 : wd (Jvm.Cond.selects "TypedBlood" ({ cls := "TypedBlood", name := "quarantine", desc := "(IZ)I" } : Jvm.MethodName) ({ cls := "TypedBlood", name := "quarantine", desc := "(IZ)I" } : Jvm.MethodName)) := ⟨List.mem_of_getElem? (i := 636) (by decide +kernel), by decide +kernel⟩
theorem ww_637 : wd (Jvm.Cond.code ({ cls := "TypedBlood", name := "quarantine", desc := "(IZ)I" } : Jvm.MethodName) prog_1_method_20_code (6 : Nat) (Option.some Jvm.ClassFile.FieldType.int)) := ⟨List.mem_of_getElem? (i := 637) (by decide +kernel), by decide +kernel⟩
theorem ww_639 : wd (Jvm.Cond.methodLink "TypedBloodLaw" (188 : Nat) ({ cls := "TypedBloodLaw", name := "of", desc := "(LTypedBlood;II[J)I" } : Jvm.MethodName)) := ⟨List.mem_of_getElem? (i := 639) (by decide +kernel), by decide +kernel⟩
theorem ww_640 : wd (Jvm.Cond.static ({ cls := "TypedBloodLaw", name := "of", desc := "(LTypedBlood;II[J)I" } : Jvm.MethodName)) := ⟨List.mem_of_getElem? (i := 640) (by decide +kernel), by decide +kernel⟩
theorem ww_641 : wd (Jvm.Cond.codeWith ({ cls := "TypedBloodLaw", name := "of", desc := "(LTypedBlood;II[J)I" } : Jvm.MethodName) method_22_code (5 : Nat) (Option.some Jvm.ClassFile.FieldType.int) [((0 : Nat), (10 : Nat), (13 : Nat), (25 : Nat)), ((0 : Nat), (10 : Nat), (17 : Nat), (85 : Nat))]) := ⟨List.mem_of_getElem? (i := 641) (by decide +kernel), by decide +kernel⟩
theorem ww_642 : wd (Jvm.Cond.classLink "TypedBloodLaw" (85 : Nat) "java/lang/IndexOutOfBoundsException") := ⟨List.mem_of_getElem? (i := 642) (by decide +kernel), by decide +kernel⟩
theorem ww_643 : wd (Jvm.Cond.methodLink "TypedBloodLaw" (82 : Nat) ({ cls := "TypedBlood", name := "of", desc := "(II)I" } : Jvm.MethodName)) := ⟨List.mem_of_getElem? (i := 643) (by decide +kernel), by decide +kernel⟩
theorem ww_644 : wd (Jvm.Cond.instanceMethod ({ cls := "TypedBlood", name := "of", desc := "(II)I" } : Jvm.MethodName)) := ⟨List.mem_of_getElem? (i := 644) (by decide +kernel), by decide +kernel⟩
theorem ww_645 : wd (Jvm.Cond.selects "TypedBlood" ({ cls := "TypedBlood", name := "of", desc := "(II)I" } : Jvm.MethodName) ({ cls := "TypedBlood", name := "of", desc := "(II)I" } : Jvm.MethodName)) := ⟨List.mem_of_getElem? (i := 645) (by decide +kernel), by decide +kernel⟩
theorem ww_646 : wd (Jvm.Cond.code ({ cls := "TypedBlood", name := "of", desc := "(II)I" } : Jvm.MethodName) prog_1_method_21_code (4 : Nat) (Option.some Jvm.ClassFile.FieldType.int)) := ⟨List.mem_of_getElem? (i := 646) (by decide +kernel), by decide +kernel⟩
theorem ww_647 : wd (Jvm.Cond.classLink "TypedBlood" (275 : Nat) "java/lang/IndexOutOfBoundsException") := ⟨List.mem_of_getElem? (i := 647) (by decide +kernel), by decide +kernel⟩
theorem ww_649 : wd (Jvm.Cond.castable "java/lang/IndexOutOfBoundsException" "java/lang/IndexOutOfBoundsException") := ⟨List.mem_of_getElem? (i := 649) (by decide +kernel), by decide +kernel⟩
theorem ww_663 : wd (Jvm.Cond.methodLink "TypedBloodLaw" (191 : Nat) ({ cls := "TypedBloodLaw", name := "has", desc := "(LTypedBlood;II[J)I" } : Jvm.MethodName)) := ⟨List.mem_of_getElem? (i := 663) (by decide +kernel), by decide +kernel⟩
theorem ww_664 : wd (Jvm.Cond.static ({ cls := "TypedBloodLaw", name := "has", desc := "(LTypedBlood;II[J)I" } : Jvm.MethodName)) := ⟨List.mem_of_getElem? (i := 664) (by decide +kernel), by decide +kernel⟩
theorem ww_665 : wd (Jvm.Cond.codeWith ({ cls := "TypedBloodLaw", name := "has", desc := "(LTypedBlood;II[J)I" } : Jvm.MethodName) method_23_code (5 : Nat) (Option.some Jvm.ClassFile.FieldType.int) [((0 : Nat), (10 : Nat), (13 : Nat), (25 : Nat)), ((0 : Nat), (10 : Nat), (17 : Nat), (85 : Nat))]) := ⟨List.mem_of_getElem? (i := 665) (by decide +kernel), by decide +kernel⟩
theorem ww_666 : wd (Jvm.Cond.methodLink "TypedBloodLaw" (87 : Nat) ({ cls := "TypedBlood", name := "has", desc := "(II)I" } : Jvm.MethodName)) := ⟨List.mem_of_getElem? (i := 666) (by decide +kernel), by decide +kernel⟩
theorem ww_667 : wd (Jvm.Cond.instanceMethod ({ cls := "TypedBlood", name := "has", desc := "(II)I" } : Jvm.MethodName)) := ⟨List.mem_of_getElem? (i := 667) (by decide +kernel), by decide +kernel⟩
theorem ww_668 : wd (Jvm.Cond.selects "TypedBlood" ({ cls := "TypedBlood", name := "has", desc := "(II)I" } : Jvm.MethodName) ({ cls := "TypedBlood", name := "has", desc := "(II)I" } : Jvm.MethodName)) := ⟨List.mem_of_getElem? (i := 668) (by decide +kernel), by decide +kernel⟩
theorem ww_669 : wd (Jvm.Cond.code ({ cls := "TypedBlood", name := "has", desc := "(II)I" } : Jvm.MethodName) prog_1_method_22_code (4 : Nat) (Option.some Jvm.ClassFile.FieldType.int)) := ⟨List.mem_of_getElem? (i := 669) (by decide +kernel), by decide +kernel⟩
theorem ww_670 : wd (Jvm.Cond.methodLink "TypedBlood" (280 : Nat) ({ cls := "TypedBlood$Unit", name := "antigenValue", desc := "(I)I" } : Jvm.MethodName)) := ⟨List.mem_of_getElem? (i := 670) (by decide +kernel), by decide +kernel⟩
theorem ww_671 : wd (Jvm.Cond.instanceMethod ({ cls := "TypedBlood$Unit", name := "antigenValue", desc := "(I)I" } : Jvm.MethodName)) := ⟨List.mem_of_getElem? (i := 671) (by decide +kernel), by decide +kernel⟩
theorem ww_672 : wd (Jvm.Cond.selects "TypedBlood$Unit" ({ cls := "TypedBlood$Unit", name := "antigenValue", desc := "(I)I" } : Jvm.MethodName) ({ cls := "TypedBlood$Unit", name := "antigenValue", desc := "(I)I" } : Jvm.MethodName)) := ⟨List.mem_of_getElem? (i := 672) (by decide +kernel), by decide +kernel⟩
theorem ww_673 : wd (Jvm.Cond.code ({ cls := "TypedBlood$Unit", name := "antigenValue", desc := "(I)I" } : Jvm.MethodName) prog_5_method_7_code (3 : Nat) (Option.some Jvm.ClassFile.FieldType.int)) := ⟨List.mem_of_getElem? (i := 673) (by decide +kernel), by decide +kernel⟩
theorem ww_674 : wd (Jvm.Cond.methodLink "TypedBloodLaw" (194 : Nat) ({ cls := "TypedBloodLaw", name := "who", desc := "(LTypedBlood;II[J)I" } : Jvm.MethodName)) := ⟨List.mem_of_getElem? (i := 674) (by decide +kernel), by decide +kernel⟩
theorem ww_675 : wd (Jvm.Cond.static ({ cls := "TypedBloodLaw", name := "who", desc := "(LTypedBlood;II[J)I" } : Jvm.MethodName)) := ⟨List.mem_of_getElem? (i := 675) (by decide +kernel), by decide +kernel⟩
theorem ww_676 : wd (Jvm.Cond.codeWith ({ cls := "TypedBloodLaw", name := "who", desc := "(LTypedBlood;II[J)I" } : Jvm.MethodName) method_24_code (5 : Nat) (Option.some Jvm.ClassFile.FieldType.int) [((0 : Nat), (10 : Nat), (13 : Nat), (25 : Nat)), ((0 : Nat), (10 : Nat), (17 : Nat), (85 : Nat))]) := ⟨List.mem_of_getElem? (i := 676) (by decide +kernel), by decide +kernel⟩
theorem ww_677 : wd (Jvm.Cond.methodLink "TypedBloodLaw" (90 : Nat) ({ cls := "TypedBlood", name := "who", desc := "(II)I" } : Jvm.MethodName)) := ⟨List.mem_of_getElem? (i := 677) (by decide +kernel), by decide +kernel⟩
theorem ww_678 : wd (Jvm.Cond.instanceMethod ({ cls := "TypedBlood", name := "who", desc := "(II)I" } : Jvm.MethodName)) := ⟨List.mem_of_getElem? (i := 678) (by decide +kernel), by decide +kernel⟩
theorem ww_679 : wd (Jvm.Cond.selects "TypedBlood" ({ cls := "TypedBlood", name := "who", desc := "(II)I" } : Jvm.MethodName) ({ cls := "TypedBlood", name := "who", desc := "(II)I" } : Jvm.MethodName)) := ⟨List.mem_of_getElem? (i := 679) (by decide +kernel), by decide +kernel⟩
theorem ww_680 : wd (Jvm.Cond.code ({ cls := "TypedBlood", name := "who", desc := "(II)I" } : Jvm.MethodName) prog_1_method_23_code (4 : Nat) (Option.some Jvm.ClassFile.FieldType.int)) := ⟨List.mem_of_getElem? (i := 680) (by decide +kernel), by decide +kernel⟩
theorem ww_681 : wd (Jvm.Cond.methodLink "TypedBloodLaw" (197 : Nat) ({ cls := "TypedBloodLaw", name := "why", desc := "(LTypedBlood;II[J)I" } : Jvm.MethodName)) := ⟨List.mem_of_getElem? (i := 681) (by decide +kernel), by decide +kernel⟩
theorem ww_682 : wd (Jvm.Cond.static ({ cls := "TypedBloodLaw", name := "why", desc := "(LTypedBlood;II[J)I" } : Jvm.MethodName)) := ⟨List.mem_of_getElem? (i := 682) (by decide +kernel), by decide +kernel⟩
theorem ww_683 : wd (Jvm.Cond.codeWith ({ cls := "TypedBloodLaw", name := "why", desc := "(LTypedBlood;II[J)I" } : Jvm.MethodName) method_25_code (5 : Nat) (Option.some Jvm.ClassFile.FieldType.int) [((0 : Nat), (10 : Nat), (13 : Nat), (25 : Nat))]) := ⟨List.mem_of_getElem? (i := 683) (by decide +kernel), by decide +kernel⟩
theorem ww_684 : wd (Jvm.Cond.methodLink "TypedBloodLaw" (93 : Nat) ({ cls := "TypedBlood", name := "why", desc := "(II)I" } : Jvm.MethodName)) := ⟨List.mem_of_getElem? (i := 684) (by decide +kernel), by decide +kernel⟩
theorem ww_685 : wd (Jvm.Cond.instanceMethod ({ cls := "TypedBlood", name := "why", desc := "(II)I" } : Jvm.MethodName)) := ⟨List.mem_of_getElem? (i := 685) (by decide +kernel), by decide +kernel⟩
theorem ww_686 : wd (Jvm.Cond.selects "TypedBlood" ({ cls := "TypedBlood", name := "why", desc := "(II)I" } : Jvm.MethodName) ({ cls := "TypedBlood", name := "why", desc := "(II)I" } : Jvm.MethodName)) := ⟨List.mem_of_getElem? (i := 686) (by decide +kernel), by decide +kernel⟩
theorem ww_687 : wd (Jvm.Cond.code ({ cls := "TypedBlood", name := "why", desc := "(II)I" } : Jvm.MethodName) prog_1_method_24_code (5 : Nat) (Option.some Jvm.ClassFile.FieldType.int)) := ⟨List.mem_of_getElem? (i := 687) (by decide +kernel), by decide +kernel⟩
theorem ww_688 : wd (Jvm.Cond.methodLink "TypedBloodLaw" (200 : Nat) ({ cls := "TypedBloodLaw", name := "offer", desc := "(LTypedBlood;III[J)I" } : Jvm.MethodName)) := ⟨List.mem_of_getElem? (i := 688) (by decide +kernel), by decide +kernel⟩
theorem ww_689 : wd (Jvm.Cond.static ({ cls := "TypedBloodLaw", name := "offer", desc := "(LTypedBlood;III[J)I" } : Jvm.MethodName)) := ⟨List.mem_of_getElem? (i := 689) (by decide +kernel), by decide +kernel⟩
theorem ww_690 : wd (Jvm.Cond.codeWith ({ cls := "TypedBloodLaw", name := "offer", desc := "(LTypedBlood;III[J)I" } : Jvm.MethodName) method_26_code (6 : Nat) (Option.some Jvm.ClassFile.FieldType.int) [((0 : Nat), (12 : Nat), (15 : Nat), (25 : Nat)), ((0 : Nat), (12 : Nat), (19 : Nat), (13 : Nat))]) := ⟨List.mem_of_getElem? (i := 690) (by decide +kernel), by decide +kernel⟩
theorem ww_691 : wd (Jvm.Cond.methodLink "TypedBloodLaw" (96 : Nat) ({ cls := "TypedBlood", name := "offer", desc := "(III)I" } : Jvm.MethodName)) := ⟨List.mem_of_getElem? (i := 691) (by decide +kernel), by decide +kernel⟩
theorem ww_692 : wd (Jvm.Cond.instanceMethod ({ cls := "TypedBlood", name := "offer", desc := "(III)I" } : Jvm.MethodName)) := ⟨List.mem_of_getElem? (i := 692) (by decide +kernel), by decide +kernel⟩
theorem ww_693 : wd (Jvm.Cond.selects "TypedBlood" ({ cls := "TypedBlood", name := "offer", desc := "(III)I" } : Jvm.MethodName) ({ cls := "TypedBlood", name := "offer", desc := "(III)I" } : Jvm.MethodName)) := ⟨List.mem_of_getElem? (i := 693) (by decide +kernel), by decide +kernel⟩
theorem ww_694 : wd (Jvm.Cond.code ({ cls := "TypedBlood", name := "offer", desc := "(III)I" } : Jvm.MethodName) prog_1_method_25_code (7 : Nat) (Option.some Jvm.ClassFile.FieldType.int)) := ⟨List.mem_of_getElem? (i := 694) (by decide +kernel), by decide +kernel⟩
theorem ww_696 : wd (Jvm.Cond.methodLink "TypedBlood" (287 : Nat) ({ cls := "TypedBlood$Ranking", name := "empty", desc := "()V" } : Jvm.MethodName)) := ⟨List.mem_of_getElem? (i := 696) (by decide +kernel), by decide +kernel⟩
theorem ww_697 : wd (Jvm.Cond.instanceMethod ({ cls := "TypedBlood$Ranking", name := "empty", desc := "()V" } : Jvm.MethodName)) := ⟨List.mem_of_getElem? (i := 697) (by decide +kernel), by decide +kernel⟩
theorem ww_698 : wd (Jvm.Cond.selects "TypedBlood$Ranking" ({ cls := "TypedBlood$Ranking", name := "empty", desc := "()V" } : Jvm.MethodName) ({ cls := "TypedBlood$Ranking", name := "empty", desc := "()V" } : Jvm.MethodName)) := ⟨List.mem_of_getElem? (i := 698) (by decide +kernel), by decide +kernel⟩
theorem ww_699 : wd (Jvm.Cond.code ({ cls := "TypedBlood$Ranking", name := "empty", desc := "()V" } : Jvm.MethodName) prog_3_method_2_code (1 : Nat) (Option.none : Option Jvm.ClassFile.FieldType)) := ⟨List.mem_of_getElem? (i := 699) (by decide +kernel), by decide +kernel⟩
theorem ww_700 : wd (Jvm.Cond.methodLink "TypedBlood" (290 : Nat) ({ cls := "TypedBlood$Ranking", name := "insert", desc := "(II)V" } : Jvm.MethodName)) := ⟨List.mem_of_getElem? (i := 700) (by decide +kernel), by decide +kernel⟩
theorem ww_701 : wd (Jvm.Cond.instanceMethod ({ cls := "TypedBlood$Ranking", name := "insert", desc := "(II)V" } : Jvm.MethodName)) := ⟨List.mem_of_getElem? (i := 701) (by decide +kernel), by decide +kernel⟩
theorem ww_702 : wd (Jvm.Cond.selects "TypedBlood$Ranking" ({ cls := "TypedBlood$Ranking", name := "insert", desc := "(II)V" } : Jvm.MethodName) ({ cls := "TypedBlood$Ranking", name := "insert", desc := "(II)V" } : Jvm.MethodName)) := ⟨List.mem_of_getElem? (i := 702) (by decide +kernel), by decide +kernel⟩
theorem ww_703 : wd (Jvm.Cond.code ({ cls := "TypedBlood$Ranking", name := "insert", desc := "(II)V" } : Jvm.MethodName) prog_3_method_3_code (4 : Nat) (Option.none : Option Jvm.ClassFile.FieldType)) := ⟨List.mem_of_getElem? (i := 703) (by decide +kernel), by decide +kernel⟩
theorem ww_704 : wd (Jvm.Cond.methodLink "TypedBlood" (293 : Nat) ({ cls := "TypedBlood$Ranking", name := "at", desc := "(I)I" } : Jvm.MethodName)) := ⟨List.mem_of_getElem? (i := 704) (by decide +kernel), by decide +kernel⟩
theorem ww_705 : wd (Jvm.Cond.instanceMethod ({ cls := "TypedBlood$Ranking", name := "at", desc := "(I)I" } : Jvm.MethodName)) := ⟨List.mem_of_getElem? (i := 705) (by decide +kernel), by decide +kernel⟩
theorem ww_706 : wd (Jvm.Cond.selects "TypedBlood$Ranking" ({ cls := "TypedBlood$Ranking", name := "at", desc := "(I)I" } : Jvm.MethodName) ({ cls := "TypedBlood$Ranking", name := "at", desc := "(I)I" } : Jvm.MethodName)) := ⟨List.mem_of_getElem? (i := 706) (by decide +kernel), by decide +kernel⟩
theorem ww_707 : wd (Jvm.Cond.code ({ cls := "TypedBlood$Ranking", name := "at", desc := "(I)I" } : Jvm.MethodName) prog_3_method_4_code (2 : Nat) (Option.some Jvm.ClassFile.FieldType.int)) := ⟨List.mem_of_getElem? (i := 707) (by decide +kernel), by decide +kernel⟩
theorem ww_708 : wd (Jvm.Cond.methodLink "TypedBloodLaw" (203 : Nat) ({ cls := "TypedBloodLaw", name := "stock", desc := "(LTypedBlood;III[J)I" } : Jvm.MethodName)) := ⟨List.mem_of_getElem? (i := 708) (by decide +kernel), by decide +kernel⟩
theorem ww_709 : wd (Jvm.Cond.static ({ cls := "TypedBloodLaw", name := "stock", desc := "(LTypedBlood;III[J)I" } : Jvm.MethodName)) := ⟨List.mem_of_getElem? (i := 709) (by decide +kernel), by decide +kernel⟩
theorem ww_710 : wd (Jvm.Cond.codeWith ({ cls := "TypedBloodLaw", name := "stock", desc := "(LTypedBlood;III[J)I" } : Jvm.MethodName) method_27_code (6 : Nat) (Option.some Jvm.ClassFile.FieldType.int) [((0 : Nat), (12 : Nat), (15 : Nat), (13 : Nat))]) := ⟨List.mem_of_getElem? (i := 710) (by decide +kernel), by decide +kernel⟩
theorem ww_711 : wd (Jvm.Cond.methodLink "TypedBloodLaw" (99 : Nat) ({ cls := "TypedBlood", name := "stock", desc := "(III)I" } : Jvm.MethodName)) := ⟨List.mem_of_getElem? (i := 711) (by decide +kernel), by decide +kernel⟩
theorem ww_712 : wd (Jvm.Cond.instanceMethod ({ cls := "TypedBlood", name := "stock", desc := "(III)I" } : Jvm.MethodName)) := ⟨List.mem_of_getElem? (i := 712) (by decide +kernel), by decide +kernel⟩
theorem ww_713 : wd (Jvm.Cond.selects "TypedBlood" ({ cls := "TypedBlood", name := "stock", desc := "(III)I" } : Jvm.MethodName) ({ cls := "TypedBlood", name := "stock", desc := "(III)I" } : Jvm.MethodName)) := ⟨List.mem_of_getElem? (i := 713) (by decide +kernel), by decide +kernel⟩
theorem ww_714 : wd (Jvm.Cond.code ({ cls := "TypedBlood", name := "stock", desc := "(III)I" } : Jvm.MethodName) prog_1_method_26_code (9 : Nat) (Option.some Jvm.ClassFile.FieldType.int)) := ⟨List.mem_of_getElem? (i := 714) (by decide +kernel), by decide +kernel⟩
theorem ww_716 : wd (Jvm.Cond.methodLink "TypedBloodLaw" (206 : Nat) ({ cls := "TypedBloodLaw", name := "expiring", desc := "(LTypedBlood;II[J)I" } : Jvm.MethodName)) := ⟨List.mem_of_getElem? (i := 716) (by decide +kernel), by decide +kernel⟩
theorem ww_717 : wd (Jvm.Cond.static ({ cls := "TypedBloodLaw", name := "expiring", desc := "(LTypedBlood;II[J)I" } : Jvm.MethodName)) := ⟨List.mem_of_getElem? (i := 717) (by decide +kernel), by decide +kernel⟩
theorem ww_718 : wd (Jvm.Cond.codeWith ({ cls := "TypedBloodLaw", name := "expiring", desc := "(LTypedBlood;II[J)I" } : Jvm.MethodName) method_28_code (5 : Nat) (Option.some Jvm.ClassFile.FieldType.int) [((0 : Nat), (10 : Nat), (13 : Nat), (13 : Nat))]) := ⟨List.mem_of_getElem? (i := 718) (by decide +kernel), by decide +kernel⟩
theorem ww_719 : wd (Jvm.Cond.methodLink "TypedBloodLaw" (102 : Nat) ({ cls := "TypedBlood", name := "expiring", desc := "(II)I" } : Jvm.MethodName)) := ⟨List.mem_of_getElem? (i := 719) (by decide +kernel), by decide +kernel⟩
theorem ww_720 : wd (Jvm.Cond.instanceMethod ({ cls := "TypedBlood", name := "expiring", desc := "(II)I" } : Jvm.MethodName)) := ⟨List.mem_of_getElem? (i := 720) (by decide +kernel), by decide +kernel⟩
theorem ww_721 : wd (Jvm.Cond.selects "TypedBlood" ({ cls := "TypedBlood", name := "expiring", desc := "(II)I" } : Jvm.MethodName) ({ cls := "TypedBlood", name := "expiring", desc := "(II)I" } : Jvm.MethodName)) := ⟨List.mem_of_getElem? (i := 721) (by decide +kernel), by decide +kernel⟩
theorem ww_722 : wd (Jvm.Cond.code ({ cls := "TypedBlood", name := "expiring", desc := "(II)I" } : Jvm.MethodName) prog_1_method_27_code (5 : Nat) (Option.some Jvm.ClassFile.FieldType.int)) := ⟨List.mem_of_getElem? (i := 722) (by decide +kernel), by decide +kernel⟩
theorem ww_724 : wd (Jvm.Cond.methodLink "TypedBloodLaw" (209 : Nat) ({ cls := "TypedBloodLaw", name := "lookback", desc := "(LTypedBlood;II[J)I" } : Jvm.MethodName)) := ⟨List.mem_of_getElem? (i := 724) (by decide +kernel), by decide +kernel⟩
theorem ww_725 : wd (Jvm.Cond.static ({ cls := "TypedBloodLaw", name := "lookback", desc := "(LTypedBlood;II[J)I" } : Jvm.MethodName)) := ⟨List.mem_of_getElem? (i := 725) (by decide +kernel), by decide +kernel⟩
theorem ww_726 : wd (Jvm.Cond.codeWith ({ cls := "TypedBloodLaw", name := "lookback", desc := "(LTypedBlood;II[J)I" } : Jvm.MethodName) method_29_code (5 : Nat) (Option.some Jvm.ClassFile.FieldType.int) [((0 : Nat), (10 : Nat), (13 : Nat), (13 : Nat))]) := ⟨List.mem_of_getElem? (i := 726) (by decide +kernel), by decide +kernel⟩
theorem ww_727 : wd (Jvm.Cond.methodLink "TypedBloodLaw" (105 : Nat) ({ cls := "TypedBlood", name := "lookback", desc := "(II)I" } : Jvm.MethodName)) := ⟨List.mem_of_getElem? (i := 727) (by decide +kernel), by decide +kernel⟩
theorem ww_728 : wd (Jvm.Cond.instanceMethod ({ cls := "TypedBlood", name := "lookback", desc := "(II)I" } : Jvm.MethodName)) := ⟨List.mem_of_getElem? (i := 728) (by decide +kernel), by decide +kernel⟩
theorem ww_729 : wd (Jvm.Cond.selects "TypedBlood" ({ cls := "TypedBlood", name := "lookback", desc := "(II)I" } : Jvm.MethodName) ({ cls := "TypedBlood", name := "lookback", desc := "(II)I" } : Jvm.MethodName)) := ⟨List.mem_of_getElem? (i := 729) (by decide +kernel), by decide +kernel⟩
theorem ww_730 : wd (Jvm.Cond.code ({ cls := "TypedBlood", name := "lookback", desc := "(II)I" } : Jvm.MethodName) prog_1_method_28_code (5 : Nat) (Option.some Jvm.ClassFile.FieldType.int)) := ⟨List.mem_of_getElem? (i := 730) (by decide +kernel), by decide +kernel⟩
theorem ww_731 : wd (Jvm.Cond.methodLink "TypedBlood" (303 : Nat) ({ cls := "TypedBlood", name := "firstIssue", desc := "(II)I" } : Jvm.MethodName)) := ⟨List.mem_of_getElem? (i := 731) (by decide +kernel), by decide +kernel⟩
theorem ww_733 : wd (Jvm.Cond.instanceMethod ({ cls := "TypedBlood", name := "firstIssue", desc := "(II)I" } : Jvm.MethodName)) := ⟨List.mem_of_getElem? (i := 733) (by decide +kernel), by decide +kernel⟩
theorem ww_734 : wd (Jvm.Cond.code ({ cls := "TypedBlood", name := "firstIssue", desc := "(II)I" } : Jvm.MethodName) prog_1_method_41_code (6 : Nat) (Option.some Jvm.ClassFile.FieldType.int)) := ⟨List.mem_of_getElem? (i := 734) (by decide +kernel), by decide +kernel⟩
theorem ww_735 : wd (Jvm.Cond.methodLink "TypedBloodLaw" (212 : Nat) ({ cls := "TypedBloodLaw", name := "received", desc := "(LTypedBlood;II[J)I" } : Jvm.MethodName)) := ⟨List.mem_of_getElem? (i := 735) (by decide +kernel), by decide +kernel⟩
theorem ww_736 : wd (Jvm.Cond.static ({ cls := "TypedBloodLaw", name := "received", desc := "(LTypedBlood;II[J)I" } : Jvm.MethodName)) := ⟨List.mem_of_getElem? (i := 736) (by decide +kernel), by decide +kernel⟩
theorem ww_737 : wd (Jvm.Cond.codeWith ({ cls := "TypedBloodLaw", name := "received", desc := "(LTypedBlood;II[J)I" } : Jvm.MethodName) method_30_code (5 : Nat) (Option.some Jvm.ClassFile.FieldType.int) [((0 : Nat), (10 : Nat), (13 : Nat), (25 : Nat))]) := ⟨List.mem_of_getElem? (i := 737) (by decide +kernel), by decide +kernel⟩
theorem ww_738 : wd (Jvm.Cond.methodLink "TypedBloodLaw" (108 : Nat) ({ cls := "TypedBlood", name := "received", desc := "(II)I" } : Jvm.MethodName)) := ⟨List.mem_of_getElem? (i := 738) (by decide +kernel), by decide +kernel⟩
theorem ww_739 : wd (Jvm.Cond.instanceMethod ({ cls := "TypedBlood", name := "received", desc := "(II)I" } : Jvm.MethodName)) := ⟨List.mem_of_getElem? (i := 739) (by decide +kernel), by decide +kernel⟩
theorem ww_740 : wd (Jvm.Cond.selects "TypedBlood" ({ cls := "TypedBlood", name := "received", desc := "(II)I" } : Jvm.MethodName) ({ cls := "TypedBlood", name := "received", desc := "(II)I" } : Jvm.MethodName)) := ⟨List.mem_of_getElem? (i := 740) (by decide +kernel), by decide +kernel⟩
theorem ww_741 : wd (Jvm.Cond.code ({ cls := "TypedBlood", name := "received", desc := "(II)I" } : Jvm.MethodName) prog_1_method_29_code (4 : Nat) (Option.some Jvm.ClassFile.FieldType.int)) := ⟨List.mem_of_getElem? (i := 741) (by decide +kernel), by decide +kernel⟩
theorem ww_742 : wd (Jvm.Cond.methodLink "TypedBloodLaw" (215 : Nat) ({ cls := "TypedBloodLaw", name := "count", desc := "(LTypedBlood;II[J)I" } : Jvm.MethodName)) := ⟨List.mem_of_getElem? (i := 742) (by decide +kernel), by decide +kernel⟩
theorem ww_743 : wd (Jvm.Cond.static ({ cls := "TypedBloodLaw", name := "count", desc := "(LTypedBlood;II[J)I" } : Jvm.MethodName)) := ⟨List.mem_of_getElem? (i := 743) (by decide +kernel), by decide +kernel⟩
theorem ww_744 : wd (Jvm.Cond.codeWith ({ cls := "TypedBloodLaw", name := "count", desc := "(LTypedBlood;II[J)I" } : Jvm.MethodName) method_31_code (5 : Nat) (Option.some Jvm.ClassFile.FieldType.int) [((0 : Nat), (10 : Nat), (13 : Nat), (13 : Nat))]) := ⟨List.mem_of_getElem? (i := 744) (by decide +kernel), by decide +kernel⟩
theorem ww_745 : wd (Jvm.Cond.methodLink "TypedBloodLaw" (111 : Nat) ({ cls := "TypedBlood", name := "count", desc := "(II)I" } : Jvm.MethodName)) := ⟨List.mem_of_getElem? (i := 745) (by decide +kernel), by decide +kernel⟩
theorem ww_746 : wd (Jvm.Cond.instanceMethod ({ cls := "TypedBlood", name := "count", desc := "(II)I" } : Jvm.MethodName)) := ⟨List.mem_of_getElem? (i := 746) (by decide +kernel), by decide +kernel⟩
theorem ww_747 : wd (Jvm.Cond.selects "TypedBlood" ({ cls := "TypedBlood", name := "count", desc := "(II)I" } : Jvm.MethodName) ({ cls := "TypedBlood", name := "count", desc := "(II)I" } : Jvm.MethodName)) := ⟨List.mem_of_getElem? (i := 747) (by decide +kernel), by decide +kernel⟩
theorem ww_748 : wd (Jvm.Cond.code ({ cls := "TypedBlood", name := "count", desc := "(II)I" } : Jvm.MethodName) prog_1_method_30_code (5 : Nat) (Option.some Jvm.ClassFile.FieldType.int)) := ⟨List.mem_of_getElem? (i := 748) (by decide +kernel), by decide +kernel⟩
theorem ww_750 : wd (Jvm.Cond.classLink "TypedBloodLaw" (115 : Nat) "TypedBloodModel") := ⟨List.mem_of_getElem? (i := 750) (by decide +kernel), by decide +kernel⟩
theorem ww_751 : wd (Jvm.Cond.instantiable "TypedBloodModel" (26 : Nat)) := ⟨List.mem_of_getElem? (i := 751) (by decide +kernel), by decide +kernel⟩
theorem ww_752 : wd (Jvm.Cond.methodLink "TypedBloodLaw" (117 : Nat) ({ cls := "TypedBloodModel", name := "<init>", desc := "()V" } : Jvm.MethodName)) := ⟨List.mem_of_getElem? (i := 752) (by decide +kernel), by decide +kernel⟩
theorem ww_753 : wd (Jvm.Cond.instanceMethod ({ cls := "TypedBloodModel", name := "<init>", desc := "()V" } : Jvm.MethodName)) := ⟨List.mem_of_getElem? (i := 753) (by decide +kernel), by decide +kernel⟩
theorem ww_754 : wd (Jvm.Cond.code ({ cls := "TypedBloodModel", name := "<init>", desc := "()V" } : Jvm.MethodName) prog_7_method_1_code (2 : Nat) (Option.none : Option Jvm.ClassFile.FieldType)) := ⟨List.mem_of_getElem? (i := 754) (by decide +kernel), by decide +kernel⟩
theorem ww_755 : wd (Jvm.Cond.methodLink "TypedBloodModel" (1 : Nat) ({ cls := "java/lang/Object", name := "<init>", desc := "()V" } : Jvm.MethodName)) := ⟨List.mem_of_getElem? (i := 755) (by decide +kernel), by decide +kernel⟩
theorem ww_756 : wd (Jvm.Cond.fieldLink "TypedBloodModel" (70 : Nat) "TypedBloodModel" "thrown" "I") := ⟨List.mem_of_getElem? (i := 756) (by decide +kernel), by decide +kernel⟩
theorem ww_757 : wd (Jvm.Cond.fieldLink "TypedBloodModel" (89 : Nat) "TypedBloodModel" "now" "I") := ⟨List.mem_of_getElem? (i := 757) (by decide +kernel), by decide +kernel⟩
theorem ww_758 : wd (Jvm.Cond.fieldLink "TypedBloodModel" (74 : Nat) "TypedBloodModel" "units" "I") := ⟨List.mem_of_getElem? (i := 758) (by decide +kernel), by decide +kernel⟩
theorem ww_759 : wd (Jvm.Cond.fieldLink "TypedBloodModel" (7 : Nat) "TypedBloodModel" "kinds" "[I") := ⟨List.mem_of_getElem? (i := 759) (by decide +kernel), by decide +kernel⟩
theorem ww_760 : wd (Jvm.Cond.fieldLink "TypedBloodModel" (13 : Nat) "TypedBloodModel" "groups" "[I") := ⟨List.mem_of_getElem? (i := 760) (by decide +kernel), by decide +kernel⟩
theorem ww_761 : wd (Jvm.Cond.fieldLink "TypedBloodModel" (16 : Nat) "TypedBloodModel" "rhesus" "[I") := ⟨List.mem_of_getElem? (i := 761) (by decide +kernel), by decide +kernel⟩
theorem ww_762 : wd (Jvm.Cond.fieldLink "TypedBloodModel" (19 : Nat) "TypedBloodModel" "present" "[I") := ⟨List.mem_of_getElem? (i := 762) (by decide +kernel), by decide +kernel⟩
theorem ww_763 : wd (Jvm.Cond.fieldLink "TypedBloodModel" (22 : Nat) "TypedBloodModel" "absent" "[I") := ⟨List.mem_of_getElem? (i := 763) (by decide +kernel), by decide +kernel⟩
theorem ww_764 : wd (Jvm.Cond.fieldLink "TypedBloodModel" (25 : Nat) "TypedBloodModel" "marks" "[I") := ⟨List.mem_of_getElem? (i := 764) (by decide +kernel), by decide +kernel⟩
theorem ww_765 : wd (Jvm.Cond.fieldLink "TypedBloodModel" (28 : Nat) "TypedBloodModel" "expiries" "[I") := ⟨List.mem_of_getElem? (i := 765) (by decide +kernel), by decide +kernel⟩
theorem ww_766 : wd (Jvm.Cond.fieldLink "TypedBloodModel" (31 : Nat) "TypedBloodModel" "donors" "[I") := ⟨List.mem_of_getElem? (i := 766) (by decide +kernel), by decide +kernel⟩
theorem ww_767 : wd (Jvm.Cond.fieldLink "TypedBloodModel" (34 : Nat) "TypedBloodModel" "states" "[I") := ⟨List.mem_of_getElem? (i := 767) (by decide +kernel), by decide +kernel⟩
theorem ww_768 : wd (Jvm.Cond.fieldLink "TypedBloodModel" (37 : Nat) "TypedBloodModel" "whose" "[I") := ⟨List.mem_of_getElem? (i := 768) (by decide +kernel), by decide +kernel⟩
theorem ww_769 : wd (Jvm.Cond.fieldLink "TypedBloodModel" (40 : Nat) "TypedBloodModel" "since" "[I") := ⟨List.mem_of_getElem? (i := 769) (by decide +kernel), by decide +kernel⟩
theorem ww_770 : wd (Jvm.Cond.fieldLink "TypedBloodModel" (43 : Nat) "TypedBloodModel" "issues" "[I") := ⟨List.mem_of_getElem? (i := 770) (by decide +kernel), by decide +kernel⟩
theorem ww_771 : wd (Jvm.Cond.fieldLink "TypedBloodModel" (46 : Nat) "TypedBloodModel" "doctors" "[I") := ⟨List.mem_of_getElem? (i := 771) (by decide +kernel), by decide +kernel⟩
theorem ww_772 : wd (Jvm.Cond.fieldLink "TypedBloodModel" (49 : Nat) "TypedBloodModel" "reasons" "[I") := ⟨List.mem_of_getElem? (i := 772) (by decide +kernel), by decide +kernel⟩
theorem ww_773 : wd (Jvm.Cond.fieldLink "TypedBloodModel" (134 : Nat) "TypedBloodModel" "latestIssue" "I") := ⟨List.mem_of_getElem? (i := 773) (by decide +kernel), by decide +kernel⟩
theorem ww_774 : wd (Jvm.Cond.fieldLink "TypedBloodModel" (92 : Nat) "TypedBloodModel" "quarantined" "I") := ⟨List.mem_of_getElem? (i := 774) (by decide +kernel), by decide +kernel⟩
theorem ww_775 : wd (Jvm.Cond.fieldLink "TypedBloodModel" (81 : Nat) "TypedBloodModel" "patients" "I") := ⟨List.mem_of_getElem? (i := 775) (by decide +kernel), by decide +kernel⟩
theorem ww_776 : wd (Jvm.Cond.fieldLink "TypedBloodModel" (52 : Nat) "TypedBloodModel" "told" "[I") := ⟨List.mem_of_getElem? (i := 776) (by decide +kernel), by decide +kernel⟩
theorem ww_777 : wd (Jvm.Cond.fieldLink "TypedBloodModel" (55 : Nat) "TypedBloodModel" "toldAt" "[I") := ⟨List.mem_of_getElem? (i := 777) (by decide +kernel), by decide +kernel⟩
theorem ww_778 : wd (Jvm.Cond.fieldLink "TypedBloodModel" (58 : Nat) "TypedBloodModel" "status" "[I") := ⟨List.mem_of_getElem? (i := 778) (by decide +kernel), by decide +kernel⟩
theorem ww_779 : wd (Jvm.Cond.fieldLink "TypedBloodModel" (61 : Nat) "TypedBloodModel" "antibodies" "[I") := ⟨List.mem_of_getElem? (i := 779) (by decide +kernel), by decide +kernel⟩
theorem ww_780 : wd (Jvm.Cond.fieldLink "TypedBloodModel" (64 : Nat) "TypedBloodModel" "wants" "[I") := ⟨List.mem_of_getElem? (i := 780) (by decide +kernel), by decide +kernel⟩
theorem ww_781 : wd (Jvm.Cond.fieldLink "TypedBloodModel" (67 : Nat) "TypedBloodModel" "matched" "[I") := ⟨List.mem_of_getElem? (i := 781) (by decide +kernel), by decide +kernel⟩
theorem ww_835 : wd (Jvm.Cond.methodLink "TypedBloodLaw" (124 : Nat) ({ cls := "TypedBloodModel", name := "thrown", desc := "()I" } : Jvm.MethodName)) := ⟨List.mem_of_getElem? (i := 835) (by decide +kernel), by decide +kernel⟩
theorem ww_836 : wd (Jvm.Cond.instanceMethod ({ cls := "TypedBloodModel", name := "thrown", desc := "()I" } : Jvm.MethodName)) := ⟨List.mem_of_getElem? (i := 836) (by decide +kernel), by decide +kernel⟩
theorem ww_837 : wd (Jvm.Cond.selects "TypedBloodModel" ({ cls := "TypedBloodModel", name := "thrown", desc := "()I" } : Jvm.MethodName) ({ cls := "TypedBloodModel", name := "thrown", desc := "()I" } : Jvm.MethodName)) := ⟨List.mem_of_getElem? (i := 837) (by decide +kernel), by decide +kernel⟩
theorem ww_838 : wd (Jvm.Cond.code ({ cls := "TypedBloodModel", name := "thrown", desc := "()I" } : Jvm.MethodName) prog_7_method_2_code (1 : Nat) (Option.some Jvm.ClassFile.FieldType.int)) := ⟨List.mem_of_getElem? (i := 838) (by decide +kernel), by decide +kernel⟩
theorem ww_839 : wd (Jvm.Cond.methodLink "TypedBloodLaw" (123 : Nat) ({ cls := "TypedBloodModel", name := "pass", desc := "(I)I" } : Jvm.MethodName)) := ⟨List.mem_of_getElem? (i := 839) (by decide +kernel), by decide +kernel⟩
theorem ww_840 : wd (Jvm.Cond.instanceMethod ({ cls := "TypedBloodModel", name := "pass", desc := "(I)I" } : Jvm.MethodName)) := ⟨List.mem_of_getElem? (i := 840) (by decide +kernel), by decide +kernel⟩
theorem ww_841 : wd (Jvm.Cond.selects "TypedBloodModel" ({ cls := "TypedBloodModel", name := "pass", desc := "(I)I" } : Jvm.MethodName) ({ cls := "TypedBloodModel", name := "pass", desc := "(I)I" } : Jvm.MethodName)) := ⟨List.mem_of_getElem? (i := 841) (by decide +kernel), by decide +kernel⟩
theorem ww_842 : wd (Jvm.Cond.code ({ cls := "TypedBloodModel", name := "pass", desc := "(I)I" } : Jvm.MethodName) prog_7_method_7_code (2 : Nat) (Option.some Jvm.ClassFile.FieldType.int)) := ⟨List.mem_of_getElem? (i := 842) (by decide +kernel), by decide +kernel⟩
theorem ww_843 : wd (Jvm.Cond.constant "TypedBloodModel" (84 : Nat) (50000 : Int32)) := ⟨List.mem_of_getElem? (i := 843) (by decide +kernel), by decide +kernel⟩
theorem ww_844 : wd (Jvm.Cond.methodLink "TypedBloodModel" (77 : Nat) ({ cls := "TypedBloodModel", name := "in", desc := "(III)Z" } : Jvm.MethodName)) := ⟨List.mem_of_getElem? (i := 844) (by decide +kernel), by decide +kernel⟩
theorem ww_845 : wd (Jvm.Cond.static ({ cls := "TypedBloodModel", name := "in", desc := "(III)Z" } : Jvm.MethodName)) := ⟨List.mem_of_getElem? (i := 845) (by decide +kernel), by decide +kernel⟩
theorem ww_846 : wd (Jvm.Cond.code ({ cls := "TypedBloodModel", name := "in", desc := "(III)Z" } : Jvm.MethodName) prog_7_method_4_code (3 : Nat) (Option.some Jvm.ClassFile.FieldType.boolean)) := ⟨List.mem_of_getElem? (i := 846) (by decide +kernel), by decide +kernel⟩
theorem ww_847 : wd (Jvm.Cond.methodLink "TypedBloodModel" (85 : Nat) ({ cls := "TypedBloodModel", name := "refused", desc := "(ZZZZ)Z" } : Jvm.MethodName)) := ⟨List.mem_of_getElem? (i := 847) (by decide +kernel), by decide +kernel⟩
theorem ww_849 : wd (Jvm.Cond.instanceMethod ({ cls := "TypedBloodModel", name := "refused", desc := "(ZZZZ)Z" } : Jvm.MethodName)) := ⟨List.mem_of_getElem? (i := 849) (by decide +kernel), by decide +kernel⟩
theorem ww_850 : wd (Jvm.Cond.code ({ cls := "TypedBloodModel", name := "refused", desc := "(ZZZZ)Z" } : Jvm.MethodName) prog_7_method_3_code (5 : Nat) (Option.some Jvm.ClassFile.FieldType.boolean)) := ⟨List.mem_of_getElem? (i := 850) (by decide +kernel), by decide +kernel⟩
theorem ww_851 : wd (Jvm.Cond.methodLink "TypedBloodLaw" (130 : Nat) ({ cls := "TypedBloodModel", name := "unit", desc := "(IIIII)I" } : Jvm.MethodName)) := ⟨List.mem_of_getElem? (i := 851) (by decide +kernel), by decide +kernel⟩
theorem ww_852 : wd (Jvm.Cond.instanceMethod ({ cls := "TypedBloodModel", name := "unit", desc := "(IIIII)I" } : Jvm.MethodName)) := ⟨List.mem_of_getElem? (i := 852) (by decide +kernel), by decide +kernel⟩
theorem ww_853 : wd (Jvm.Cond.selects "TypedBloodModel" ({ cls := "TypedBloodModel", name := "unit", desc := "(IIIII)I" } : Jvm.MethodName) ({ cls := "TypedBloodModel", name := "unit", desc := "(IIIII)I" } : Jvm.MethodName)) := ⟨List.mem_of_getElem? (i := 853) (by decide +kernel), by decide +kernel⟩
theorem ww_854 : wd (Jvm.Cond.code ({ cls := "TypedBloodModel", name := "unit", desc := "(IIIII)I" } : Jvm.MethodName) prog_7_method_13_code (8 : Nat) (Option.some Jvm.ClassFile.FieldType.int)) := ⟨List.mem_of_getElem? (i := 854) (by decide +kernel), by decide +kernel⟩
theorem ww_855 : wd (Jvm.Cond.constant "TypedBloodModel" (106 : Nat) (60000 : Int32)) := ⟨List.mem_of_getElem? (i := 855) (by decide +kernel), by decide +kernel⟩
theorem ww_856 : wd (Jvm.Cond.methodLink "TypedBloodModel" (107 : Nat) ({ cls := "TypedBloodModel", name := "add", desc := "(IIII)I" } : Jvm.MethodName)) := ⟨List.mem_of_getElem? (i := 856) (by decide +kernel), by decide +kernel⟩
theorem ww_858 : wd (Jvm.Cond.instanceMethod ({ cls := "TypedBloodModel", name := "add", desc := "(IIII)I" } : Jvm.MethodName)) := ⟨List.mem_of_getElem? (i := 858) (by decide +kernel), by decide +kernel⟩
theorem ww_859 : wd (Jvm.Cond.code ({ cls := "TypedBloodModel", name := "add", desc := "(IIII)I" } : Jvm.MethodName) prog_7_method_12_code (6 : Nat) (Option.some Jvm.ClassFile.FieldType.int)) := ⟨List.mem_of_getElem? (i := 859) (by decide +kernel), by decide +kernel⟩
theorem ww_860 : wd (Jvm.Cond.methodLink "TypedBloodLaw" (134 : Nat) ({ cls := "TypedBloodModel", name := "antigen", desc := "(III)V" } : Jvm.MethodName)) := ⟨List.mem_of_getElem? (i := 860) (by decide +kernel), by decide +kernel⟩
theorem ww_861 : wd (Jvm.Cond.instanceMethod ({ cls := "TypedBloodModel", name := "antigen", desc := "(III)V" } : Jvm.MethodName)) := ⟨List.mem_of_getElem? (i := 861) (by decide +kernel), by decide +kernel⟩
theorem ww_862 : wd (Jvm.Cond.selects "TypedBloodModel" ({ cls := "TypedBloodModel", name := "antigen", desc := "(III)V" } : Jvm.MethodName) ({ cls := "TypedBloodModel", name := "antigen", desc := "(III)V" } : Jvm.MethodName)) := ⟨List.mem_of_getElem? (i := 862) (by decide +kernel), by decide +kernel⟩
theorem ww_863 : wd (Jvm.Cond.code ({ cls := "TypedBloodModel", name := "antigen", desc := "(III)V" } : Jvm.MethodName) prog_7_method_14_code (4 : Nat) (Option.none : Option Jvm.ClassFile.FieldType)) := ⟨List.mem_of_getElem? (i := 863) (by decide +kernel), by decide +kernel⟩
theorem ww_864 : wd (Jvm.Cond.methodLink "TypedBloodModel" (111 : Nat) ({ cls := "TypedBloodModel", name := "isUnit", desc := "(I)Z" } : Jvm.MethodName)) := ⟨List.mem_of_getElem? (i := 864) (by decide +kernel), by decide +kernel⟩
theorem ww_866 : wd (Jvm.Cond.instanceMethod ({ cls := "TypedBloodModel", name := "isUnit", desc := "(I)Z" } : Jvm.MethodName)) := ⟨List.mem_of_getElem? (i := 866) (by decide +kernel), by decide +kernel⟩
theorem ww_867 : wd (Jvm.Cond.code ({ cls := "TypedBloodModel", name := "isUnit", desc := "(I)Z" } : Jvm.MethodName) prog_7_method_5_code (2 : Nat) (Option.some Jvm.ClassFile.FieldType.boolean)) := ⟨List.mem_of_getElem? (i := 867) (by decide +kernel), by decide +kernel⟩
theorem ww_868 : wd (Jvm.Cond.methodLink "TypedBloodModel" (95 : Nat) ({ cls := "TypedBloodModel", name := "stateOf", desc := "(I)I" } : Jvm.MethodName)) := ⟨List.mem_of_getElem? (i := 868) (by decide +kernel), by decide +kernel⟩
theorem ww_870 : wd (Jvm.Cond.instanceMethod ({ cls := "TypedBloodModel", name := "stateOf", desc := "(I)I" } : Jvm.MethodName)) := ⟨List.mem_of_getElem? (i := 870) (by decide +kernel), by decide +kernel⟩
theorem ww_871 : wd (Jvm.Cond.code ({ cls := "TypedBloodModel", name := "stateOf", desc := "(I)I" } : Jvm.MethodName) prog_7_method_8_code (2 : Nat) (Option.some Jvm.ClassFile.FieldType.int)) := ⟨List.mem_of_getElem? (i := 871) (by decide +kernel), by decide +kernel⟩
theorem ww_872 : wd (Jvm.Cond.methodLink "TypedBloodLaw" (138 : Nat) ({ cls := "TypedBloodModel", name := "process", desc := "(II)I" } : Jvm.MethodName)) := ⟨List.mem_of_getElem? (i := 872) (by decide +kernel), by decide +kernel⟩
theorem ww_873 : wd (Jvm.Cond.instanceMethod ({ cls := "TypedBloodModel", name := "process", desc := "(II)I" } : Jvm.MethodName)) := ⟨List.mem_of_getElem? (i := 873) (by decide +kernel), by decide +kernel⟩
theorem ww_874 : wd (Jvm.Cond.selects "TypedBloodModel" ({ cls := "TypedBloodModel", name := "process", desc := "(II)I" } : Jvm.MethodName) ({ cls := "TypedBloodModel", name := "process", desc := "(II)I" } : Jvm.MethodName)) := ⟨List.mem_of_getElem? (i := 874) (by decide +kernel), by decide +kernel⟩
theorem ww_875 : wd (Jvm.Cond.code ({ cls := "TypedBloodModel", name := "process", desc := "(II)I" } : Jvm.MethodName) prog_7_method_16_code (6 : Nat) (Option.some Jvm.ClassFile.FieldType.int)) := ⟨List.mem_of_getElem? (i := 875) (by decide +kernel), by decide +kernel⟩
theorem ww_876 : wd (Jvm.Cond.methodLink "TypedBloodModel" (114 : Nat) ({ cls := "TypedBloodModel", name := "isReady", desc := "(I)Z" } : Jvm.MethodName)) := ⟨List.mem_of_getElem? (i := 876) (by decide +kernel), by decide +kernel⟩
theorem ww_878 : wd (Jvm.Cond.instanceMethod ({ cls := "TypedBloodModel", name := "isReady", desc := "(I)Z" } : Jvm.MethodName)) := ⟨List.mem_of_getElem? (i := 878) (by decide +kernel), by decide +kernel⟩
theorem ww_879 : wd (Jvm.Cond.code ({ cls := "TypedBloodModel", name := "isReady", desc := "(I)Z" } : Jvm.MethodName) prog_7_method_11_code (2 : Nat) (Option.some Jvm.ClassFile.FieldType.boolean)) := ⟨List.mem_of_getElem? (i := 879) (by decide +kernel), by decide +kernel⟩
theorem ww_880 : wd (Jvm.Cond.methodLink "TypedBloodModel" (99 : Nat) ({ cls := "TypedBloodModel", name := "isExpired", desc := "(I)Z" } : Jvm.MethodName)) := ⟨List.mem_of_getElem? (i := 880) (by decide +kernel), by decide +kernel⟩
theorem ww_882 : wd (Jvm.Cond.instanceMethod ({ cls := "TypedBloodModel", name := "isExpired", desc := "(I)Z" } : Jvm.MethodName)) := ⟨List.mem_of_getElem? (i := 882) (by decide +kernel), by decide +kernel⟩
theorem ww_883 : wd (Jvm.Cond.code ({ cls := "TypedBloodModel", name := "isExpired", desc := "(I)Z" } : Jvm.MethodName) prog_7_method_9_code (2 : Nat) (Option.some Jvm.ClassFile.FieldType.boolean)) := ⟨List.mem_of_getElem? (i := 883) (by decide +kernel), by decide +kernel⟩
theorem ww_884 : wd (Jvm.Cond.methodLink "TypedBloodModel" (103 : Nat) ({ cls := "TypedBloodModel", name := "isBarred", desc := "(I)Z" } : Jvm.MethodName)) := ⟨List.mem_of_getElem? (i := 884) (by decide +kernel), by decide +kernel⟩
theorem ww_886 : wd (Jvm.Cond.instanceMethod ({ cls := "TypedBloodModel", name := "isBarred", desc := "(I)Z" } : Jvm.MethodName)) := ⟨List.mem_of_getElem? (i := 886) (by decide +kernel), by decide +kernel⟩
theorem ww_887 : wd (Jvm.Cond.code ({ cls := "TypedBloodModel", name := "isBarred", desc := "(I)Z" } : Jvm.MethodName) prog_7_method_10_code (2 : Nat) (Option.some Jvm.ClassFile.FieldType.boolean)) := ⟨List.mem_of_getElem? (i := 887) (by decide +kernel), by decide +kernel⟩
theorem ww_888 : wd (Jvm.Cond.methodLink "TypedBloodModel" (117 : Nat) ({ cls := "TypedBloodModel", name := "suits", desc := "(II)Z" } : Jvm.MethodName)) := ⟨List.mem_of_getElem? (i := 888) (by decide +kernel), by decide +kernel⟩
theorem ww_889 : wd (Jvm.Cond.static ({ cls := "TypedBloodModel", name := "suits", desc := "(II)Z" } : Jvm.MethodName)) := ⟨List.mem_of_getElem? (i := 889) (by decide +kernel), by decide +kernel⟩
theorem ww_890 : wd (Jvm.Cond.code ({ cls := "TypedBloodModel", name := "suits", desc := "(II)Z" } : Jvm.MethodName) prog_7_method_15_code (2 : Nat) (Option.some Jvm.ClassFile.FieldType.boolean)) := ⟨List.mem_of_getElem? (i := 890) (by decide +kernel), by decide +kernel⟩
theorem ww_891 : wd (Jvm.Cond.methodLink "TypedBloodLaw" (141 : Nat) ({ cls := "TypedBloodModel", name := "pool", desc := "(II)I" } : Jvm.MethodName)) := ⟨List.mem_of_getElem? (i := 891) (by decide +kernel), by decide +kernel⟩
theorem ww_892 : wd (Jvm.Cond.instanceMethod ({ cls := "TypedBloodModel", name := "pool", desc := "(II)I" } : Jvm.MethodName)) := ⟨List.mem_of_getElem? (i := 892) (by decide +kernel), by decide +kernel⟩
theorem ww_893 : wd (Jvm.Cond.selects "TypedBloodModel" ({ cls := "TypedBloodModel", name := "pool", desc := "(II)I" } : Jvm.MethodName) ({ cls := "TypedBloodModel", name := "pool", desc := "(II)I" } : Jvm.MethodName)) := ⟨List.mem_of_getElem? (i := 893) (by decide +kernel), by decide +kernel⟩
theorem ww_894 : wd (Jvm.Cond.code ({ cls := "TypedBloodModel", name := "pool", desc := "(II)I" } : Jvm.MethodName) prog_7_method_17_code (7 : Nat) (Option.some Jvm.ClassFile.FieldType.int)) := ⟨List.mem_of_getElem? (i := 894) (by decide +kernel), by decide +kernel⟩
theorem ww_895 : wd (Jvm.Cond.methodLink "TypedBloodLaw" (145 : Nat) ({ cls := "TypedBloodModel", name := "patient", desc := "()I" } : Jvm.MethodName)) := ⟨List.mem_of_getElem? (i := 895) (by decide +kernel), by decide +kernel⟩
theorem ww_896 : wd (Jvm.Cond.instanceMethod ({ cls := "TypedBloodModel", name := "patient", desc := "()I" } : Jvm.MethodName)) := ⟨List.mem_of_getElem? (i := 896) (by decide +kernel), by decide +kernel⟩
theorem ww_897 : wd (Jvm.Cond.selects "TypedBloodModel" ({ cls := "TypedBloodModel", name := "patient", desc := "()I" } : Jvm.MethodName) ({ cls := "TypedBloodModel", name := "patient", desc := "()I" } : Jvm.MethodName)) := ⟨List.mem_of_getElem? (i := 897) (by decide +kernel), by decide +kernel⟩
theorem ww_898 : wd (Jvm.Cond.code ({ cls := "TypedBloodModel", name := "patient", desc := "()I" } : Jvm.MethodName) prog_7_method_18_code (1 : Nat) (Option.some Jvm.ClassFile.FieldType.int)) := ⟨List.mem_of_getElem? (i := 898) (by decide +kernel), by decide +kernel⟩
theorem ww_899 : wd (Jvm.Cond.methodLink "TypedBloodLaw" (149 : Nat) ({ cls := "TypedBloodModel", name := "sample", desc := "(III)I" } : Jvm.MethodName)) := ⟨List.mem_of_getElem? (i := 899) (by decide +kernel), by decide +kernel⟩
theorem ww_900 : wd (Jvm.Cond.instanceMethod ({ cls := "TypedBloodModel", name := "sample", desc := "(III)I" } : Jvm.MethodName)) := ⟨List.mem_of_getElem? (i := 900) (by decide +kernel), by decide +kernel⟩
theorem ww_901 : wd (Jvm.Cond.selects "TypedBloodModel" ({ cls := "TypedBloodModel", name := "sample", desc := "(III)I" } : Jvm.MethodName) ({ cls := "TypedBloodModel", name := "sample", desc := "(III)I" } : Jvm.MethodName)) := ⟨List.mem_of_getElem? (i := 901) (by decide +kernel), by decide +kernel⟩
theorem ww_902 : wd (Jvm.Cond.code ({ cls := "TypedBloodModel", name := "sample", desc := "(III)I" } : Jvm.MethodName) prog_7_method_19_code (6 : Nat) (Option.some Jvm.ClassFile.FieldType.int)) := ⟨List.mem_of_getElem? (i := 902) (by decide +kernel), by decide +kernel⟩
theorem ww_903 : wd (Jvm.Cond.methodLink "TypedBloodModel" (121 : Nat) ({ cls := "TypedBloodModel", name := "isPatient", desc := "(I)Z" } : Jvm.MethodName)) := ⟨List.mem_of_getElem? (i := 903) (by decide +kernel), by decide +kernel⟩
theorem ww_905 : wd (Jvm.Cond.instanceMethod ({ cls := "TypedBloodModel", name := "isPatient", desc := "(I)Z" } : Jvm.MethodName)) := ⟨List.mem_of_getElem? (i := 905) (by decide +kernel), by decide +kernel⟩
theorem ww_906 : wd (Jvm.Cond.code ({ cls := "TypedBloodModel", name := "isPatient", desc := "(I)Z" } : Jvm.MethodName) prog_7_method_6_code (2 : Nat) (Option.some Jvm.ClassFile.FieldType.boolean)) := ⟨List.mem_of_getElem? (i := 906) (by decide +kernel), by decide +kernel⟩
theorem ww_907 : wd (Jvm.Cond.methodLink "TypedBloodLaw" (152 : Nat) ({ cls := "TypedBloodModel", name := "unlock", desc := "(III)V" } : Jvm.MethodName)) := ⟨List.mem_of_getElem? (i := 907) (by decide +kernel), by decide +kernel⟩
theorem ww_908 : wd (Jvm.Cond.instanceMethod ({ cls := "TypedBloodModel", name := "unlock", desc := "(III)V" } : Jvm.MethodName)) := ⟨List.mem_of_getElem? (i := 908) (by decide +kernel), by decide +kernel⟩
theorem ww_909 : wd (Jvm.Cond.selects "TypedBloodModel" ({ cls := "TypedBloodModel", name := "unlock", desc := "(III)V" } : Jvm.MethodName) ({ cls := "TypedBloodModel", name := "unlock", desc := "(III)V" } : Jvm.MethodName)) := ⟨List.mem_of_getElem? (i := 909) (by decide +kernel), by decide +kernel⟩
theorem ww_910 : wd (Jvm.Cond.code ({ cls := "TypedBloodModel", name := "unlock", desc := "(III)V" } : Jvm.MethodName) prog_7_method_20_code (5 : Nat) (Option.none : Option Jvm.ClassFile.FieldType)) := ⟨List.mem_of_getElem? (i := 910) (by decide +kernel), by decide +kernel⟩
theorem ww_911 : wd (Jvm.Cond.methodLink "TypedBloodLaw" (155 : Nat) ({ cls := "TypedBloodModel", name := "antibody", desc := "(II)I" } : Jvm.MethodName)) := ⟨List.mem_of_getElem? (i := 911) (by decide +kernel), by decide +kernel⟩
theorem ww_912 : wd (Jvm.Cond.instanceMethod ({ cls := "TypedBloodModel", name := "antibody", desc := "(II)I" } : Jvm.MethodName)) := ⟨List.mem_of_getElem? (i := 912) (by decide +kernel), by decide +kernel⟩
theorem ww_913 : wd (Jvm.Cond.selects "TypedBloodModel" ({ cls := "TypedBloodModel", name := "antibody", desc := "(II)I" } : Jvm.MethodName) ({ cls := "TypedBloodModel", name := "antibody", desc := "(II)I" } : Jvm.MethodName)) := ⟨List.mem_of_getElem? (i := 913) (by decide +kernel), by decide +kernel⟩
theorem ww_914 : wd (Jvm.Cond.code ({ cls := "TypedBloodModel", name := "antibody", desc := "(II)I" } : Jvm.MethodName) prog_7_method_22_code (3 : Nat) (Option.some Jvm.ClassFile.FieldType.int)) := ⟨List.mem_of_getElem? (i := 914) (by decide +kernel), by decide +kernel⟩
theorem ww_915 : wd (Jvm.Cond.methodLink "TypedBloodModel" (124 : Nat) ({ cls := "TypedBloodModel", name := "bitsOf", desc := "(I)I" } : Jvm.MethodName)) := ⟨List.mem_of_getElem? (i := 915) (by decide +kernel), by decide +kernel⟩
theorem ww_916 : wd (Jvm.Cond.static ({ cls := "TypedBloodModel", name := "bitsOf", desc := "(I)I" } : Jvm.MethodName)) := ⟨List.mem_of_getElem? (i := 916) (by decide +kernel), by decide +kernel⟩
theorem ww_917 : wd (Jvm.Cond.code ({ cls := "TypedBloodModel", name := "bitsOf", desc := "(I)I" } : Jvm.MethodName) prog_7_method_21_code (3 : Nat) (Option.some Jvm.ClassFile.FieldType.int)) := ⟨List.mem_of_getElem? (i := 917) (by decide +kernel), by decide +kernel⟩
theorem ww_918 : wd (Jvm.Cond.methodLink "TypedBloodLaw" (158 : Nat) ({ cls := "TypedBloodModel", name := "need", desc := "(II)I" } : Jvm.MethodName)) := ⟨List.mem_of_getElem? (i := 918) (by decide +kernel), by decide +kernel⟩
theorem ww_919 : wd (Jvm.Cond.instanceMethod ({ cls := "TypedBloodModel", name := "need", desc := "(II)I" } : Jvm.MethodName)) := ⟨List.mem_of_getElem? (i := 919) (by decide +kernel), by decide +kernel⟩
theorem ww_920 : wd (Jvm.Cond.selects "TypedBloodModel" ({ cls := "TypedBloodModel", name := "need", desc := "(II)I" } : Jvm.MethodName) ({ cls := "TypedBloodModel", name := "need", desc := "(II)I" } : Jvm.MethodName)) := ⟨List.mem_of_getElem? (i := 920) (by decide +kernel), by decide +kernel⟩
theorem ww_921 : wd (Jvm.Cond.code ({ cls := "TypedBloodModel", name := "need", desc := "(II)I" } : Jvm.MethodName) prog_7_method_23_code (4 : Nat) (Option.some Jvm.ClassFile.FieldType.int)) := ⟨List.mem_of_getElem? (i := 921) (by decide +kernel), by decide +kernel⟩
theorem ww_922 : wd (Jvm.Cond.methodLink "TypedBloodLaw" (162 : Nat) ({ cls := "TypedBloodModel", name := "crossmatch", desc := "(IIZ)V" } : Jvm.MethodName)) := ⟨List.mem_of_getElem? (i := 922) (by decide +kernel), by decide +kernel⟩
theorem ww_923 : wd (Jvm.Cond.instanceMethod ({ cls := "TypedBloodModel", name := "crossmatch", desc := "(IIZ)V" } : Jvm.MethodName)) := ⟨List.mem_of_getElem? (i := 923) (by decide +kernel), by decide +kernel⟩
theorem ww_924 : wd (Jvm.Cond.selects "TypedBloodModel" ({ cls := "TypedBloodModel", name := "crossmatch", desc := "(IIZ)V" } : Jvm.MethodName) ({ cls := "TypedBloodModel", name := "crossmatch", desc := "(IIZ)V" } : Jvm.MethodName)) := ⟨List.mem_of_getElem? (i := 924) (by decide +kernel), by decide +kernel⟩
theorem ww_925 : wd (Jvm.Cond.code ({ cls := "TypedBloodModel", name := "crossmatch", desc := "(IIZ)V" } : Jvm.MethodName) prog_7_method_26_code (6 : Nat) (Option.none : Option Jvm.ClassFile.FieldType)) := ⟨List.mem_of_getElem? (i := 925) (by decide +kernel), by decide +kernel⟩
theorem ww_926 : wd (Jvm.Cond.methodLink "TypedBloodLaw" (165 : Nat) ({ cls := "TypedBloodModel", name := "reserve", desc := "(II)I" } : Jvm.MethodName)) := ⟨List.mem_of_getElem? (i := 926) (by decide +kernel), by decide +kernel⟩
theorem ww_927 : wd (Jvm.Cond.instanceMethod ({ cls := "TypedBloodModel", name := "reserve", desc := "(II)I" } : Jvm.MethodName)) := ⟨List.mem_of_getElem? (i := 927) (by decide +kernel), by decide +kernel⟩
theorem ww_928 : wd (Jvm.Cond.selects "TypedBloodModel" ({ cls := "TypedBloodModel", name := "reserve", desc := "(II)I" } : Jvm.MethodName) ({ cls := "TypedBloodModel", name := "reserve", desc := "(II)I" } : Jvm.MethodName)) := ⟨List.mem_of_getElem? (i := 928) (by decide +kernel), by decide +kernel⟩
theorem ww_929 : wd (Jvm.Cond.code ({ cls := "TypedBloodModel", name := "reserve", desc := "(II)I" } : Jvm.MethodName) prog_7_method_27_code (5 : Nat) (Option.some Jvm.ClassFile.FieldType.int)) := ⟨List.mem_of_getElem? (i := 929) (by decide +kernel), by decide +kernel⟩
theorem ww_930 : wd (Jvm.Cond.methodLink "TypedBloodModel" (127 : Nat) ({ cls := "TypedBloodModel", name := "reasonFor", desc := "(II)I" } : Jvm.MethodName)) := ⟨List.mem_of_getElem? (i := 930) (by decide +kernel), by decide +kernel⟩
theorem ww_932 : wd (Jvm.Cond.instanceMethod ({ cls := "TypedBloodModel", name := "reasonFor", desc := "(II)I" } : Jvm.MethodName)) := ⟨List.mem_of_getElem? (i := 932) (by decide +kernel), by decide +kernel⟩
theorem ww_933 : wd (Jvm.Cond.code ({ cls := "TypedBloodModel", name := "reasonFor", desc := "(II)I" } : Jvm.MethodName) prog_7_method_24_code (8 : Nat) (Option.some Jvm.ClassFile.FieldType.int)) := ⟨List.mem_of_getElem? (i := 933) (by decide +kernel), by decide +kernel⟩
theorem ww_934 : wd (Jvm.Cond.methodLink "TypedBloodModel" (131 : Nat) ({ cls := "TypedBloodModel", name := "isMatched", desc := "(II)Z" } : Jvm.MethodName)) := ⟨List.mem_of_getElem? (i := 934) (by decide +kernel), by decide +kernel⟩
theorem ww_936 : wd (Jvm.Cond.instanceMethod ({ cls := "TypedBloodModel", name := "isMatched", desc := "(II)Z" } : Jvm.MethodName)) := ⟨List.mem_of_getElem? (i := 936) (by decide +kernel), by decide +kernel⟩
theorem ww_937 : wd (Jvm.Cond.code ({ cls := "TypedBloodModel", name := "isMatched", desc := "(II)Z" } : Jvm.MethodName) prog_7_method_25_code (4 : Nat) (Option.some Jvm.ClassFile.FieldType.boolean)) := ⟨List.mem_of_getElem? (i := 937) (by decide +kernel), by decide +kernel⟩
theorem ww_938 : wd (Jvm.Cond.methodLink "TypedBloodLaw" (168 : Nat) ({ cls := "TypedBloodModel", name := "release", desc := "(I)I" } : Jvm.MethodName)) := ⟨List.mem_of_getElem? (i := 938) (by decide +kernel), by decide +kernel⟩
theorem ww_939 : wd (Jvm.Cond.instanceMethod ({ cls := "TypedBloodModel", name := "release", desc := "(I)I" } : Jvm.MethodName)) := ⟨List.mem_of_getElem? (i := 939) (by decide +kernel), by decide +kernel⟩
theorem ww_940 : wd (Jvm.Cond.selects "TypedBloodModel" ({ cls := "TypedBloodModel", name := "release", desc := "(I)I" } : Jvm.MethodName) ({ cls := "TypedBloodModel", name := "release", desc := "(I)I" } : Jvm.MethodName)) := ⟨List.mem_of_getElem? (i := 940) (by decide +kernel), by decide +kernel⟩
theorem ww_941 : wd (Jvm.Cond.code ({ cls := "TypedBloodModel", name := "release", desc := "(I)I" } : Jvm.MethodName) prog_7_method_28_code (3 : Nat) (Option.some Jvm.ClassFile.FieldType.int)) := ⟨List.mem_of_getElem? (i := 941) (by decide +kernel), by decide +kernel⟩
theorem ww_942 : wd (Jvm.Cond.methodLink "TypedBloodLaw" (171 : Nat) ({ cls := "TypedBloodModel", name := "issue", desc := "(II)I" } : Jvm.MethodName)) := ⟨List.mem_of_getElem? (i := 942) (by decide +kernel), by decide +kernel⟩
theorem ww_943 : wd (Jvm.Cond.instanceMethod ({ cls := "TypedBloodModel", name := "issue", desc := "(II)I" } : Jvm.MethodName)) := ⟨List.mem_of_getElem? (i := 943) (by decide +kernel), by decide +kernel⟩
theorem ww_944 : wd (Jvm.Cond.selects "TypedBloodModel" ({ cls := "TypedBloodModel", name := "issue", desc := "(II)I" } : Jvm.MethodName) ({ cls := "TypedBloodModel", name := "issue", desc := "(II)I" } : Jvm.MethodName)) := ⟨List.mem_of_getElem? (i := 944) (by decide +kernel), by decide +kernel⟩
theorem ww_945 : wd (Jvm.Cond.code ({ cls := "TypedBloodModel", name := "issue", desc := "(II)I" } : Jvm.MethodName) prog_7_method_31_code (5 : Nat) (Option.some Jvm.ClassFile.FieldType.int)) := ⟨List.mem_of_getElem? (i := 945) (by decide +kernel), by decide +kernel⟩
theorem ww_946 : wd (Jvm.Cond.methodLink "TypedBloodModel" (137 : Nat) ({ cls := "TypedBloodModel", name := "mayGo", desc := "(II)Z" } : Jvm.MethodName)) := ⟨List.mem_of_getElem? (i := 946) (by decide +kernel), by decide +kernel⟩
theorem ww_948 : wd (Jvm.Cond.instanceMethod ({ cls := "TypedBloodModel", name := "mayGo", desc := "(II)Z" } : Jvm.MethodName)) := ⟨List.mem_of_getElem? (i := 948) (by decide +kernel), by decide +kernel⟩
theorem ww_949 : wd (Jvm.Cond.code ({ cls := "TypedBloodModel", name := "mayGo", desc := "(II)Z" } : Jvm.MethodName) prog_7_method_29_code (5 : Nat) (Option.some Jvm.ClassFile.FieldType.boolean)) := ⟨List.mem_of_getElem? (i := 949) (by decide +kernel), by decide +kernel⟩
theorem ww_950 : wd (Jvm.Cond.methodLink "TypedBloodModel" (140 : Nat) ({ cls := "TypedBloodModel", name := "go", desc := "(III)I" } : Jvm.MethodName)) := ⟨List.mem_of_getElem? (i := 950) (by decide +kernel), by decide +kernel⟩
theorem ww_952 : wd (Jvm.Cond.instanceMethod ({ cls := "TypedBloodModel", name := "go", desc := "(III)I" } : Jvm.MethodName)) := ⟨List.mem_of_getElem? (i := 952) (by decide +kernel), by decide +kernel⟩
theorem ww_953 : wd (Jvm.Cond.code ({ cls := "TypedBloodModel", name := "go", desc := "(III)I" } : Jvm.MethodName) prog_7_method_30_code (6 : Nat) (Option.some Jvm.ClassFile.FieldType.int)) := ⟨List.mem_of_getElem? (i := 953) (by decide +kernel), by decide +kernel⟩
theorem ww_954 : wd (Jvm.Cond.methodLink "TypedBloodLaw" (174 : Nat) ({ cls := "TypedBloodModel", name := "emergency", desc := "(III)I" } : Jvm.MethodName)) := ⟨List.mem_of_getElem? (i := 954) (by decide +kernel), by decide +kernel⟩
theorem ww_955 : wd (Jvm.Cond.instanceMethod ({ cls := "TypedBloodModel", name := "emergency", desc := "(III)I" } : Jvm.MethodName)) := ⟨List.mem_of_getElem? (i := 955) (by decide +kernel), by decide +kernel⟩
theorem ww_956 : wd (Jvm.Cond.selects "TypedBloodModel" ({ cls := "TypedBloodModel", name := "emergency", desc := "(III)I" } : Jvm.MethodName) ({ cls := "TypedBloodModel", name := "emergency", desc := "(III)I" } : Jvm.MethodName)) := ⟨List.mem_of_getElem? (i := 956) (by decide +kernel), by decide +kernel⟩
theorem ww_957 : wd (Jvm.Cond.code ({ cls := "TypedBloodModel", name := "emergency", desc := "(III)I" } : Jvm.MethodName) prog_7_method_32_code (7 : Nat) (Option.some Jvm.ClassFile.FieldType.int)) := ⟨List.mem_of_getElem? (i := 957) (by decide +kernel), by decide +kernel⟩
theorem ww_958 : wd (Jvm.Cond.methodLink "TypedBloodLaw" (177 : Nat) ({ cls := "TypedBloodModel", name := "giveBack", desc := "(I)I" } : Jvm.MethodName)) := ⟨List.mem_of_getElem? (i := 958) (by decide +kernel), by decide +kernel⟩
theorem ww_959 : wd (Jvm.Cond.instanceMethod ({ cls := "TypedBloodModel", name := "giveBack", desc := "(I)I" } : Jvm.MethodName)) := ⟨List.mem_of_getElem? (i := 959) (by decide +kernel), by decide +kernel⟩
theorem ww_960 : wd (Jvm.Cond.selects "TypedBloodModel" ({ cls := "TypedBloodModel", name := "giveBack", desc := "(I)I" } : Jvm.MethodName) ({ cls := "TypedBloodModel", name := "giveBack", desc := "(I)I" } : Jvm.MethodName)) := ⟨List.mem_of_getElem? (i := 960) (by decide +kernel), by decide +kernel⟩
theorem ww_961 : wd (Jvm.Cond.code ({ cls := "TypedBloodModel", name := "giveBack", desc := "(I)I" } : Jvm.MethodName) prog_7_method_33_code (3 : Nat) (Option.some Jvm.ClassFile.FieldType.int)) := ⟨List.mem_of_getElem? (i := 961) (by decide +kernel), by decide +kernel⟩
theorem ww_962 : wd (Jvm.Cond.methodLink "TypedBloodLaw" (180 : Nat) ({ cls := "TypedBloodModel", name := "transfused", desc := "(I)I" } : Jvm.MethodName)) := ⟨List.mem_of_getElem? (i := 962) (by decide +kernel), by decide +kernel⟩
theorem ww_963 : wd (Jvm.Cond.instanceMethod ({ cls := "TypedBloodModel", name := "transfused", desc := "(I)I" } : Jvm.MethodName)) := ⟨List.mem_of_getElem? (i := 963) (by decide +kernel), by decide +kernel⟩
theorem ww_964 : wd (Jvm.Cond.selects "TypedBloodModel" ({ cls := "TypedBloodModel", name := "transfused", desc := "(I)I" } : Jvm.MethodName) ({ cls := "TypedBloodModel", name := "transfused", desc := "(I)I" } : Jvm.MethodName)) := ⟨List.mem_of_getElem? (i := 964) (by decide +kernel), by decide +kernel⟩
theorem ww_965 : wd (Jvm.Cond.code ({ cls := "TypedBloodModel", name := "transfused", desc := "(I)I" } : Jvm.MethodName) prog_7_method_34_code (3 : Nat) (Option.some Jvm.ClassFile.FieldType.int)) := ⟨List.mem_of_getElem? (i := 965) (by decide +kernel), by decide +kernel⟩
theorem ww_966 : wd (Jvm.Cond.methodLink "TypedBloodLaw" (183 : Nat) ({ cls := "TypedBloodModel", name := "discard", desc := "(II)I" } : Jvm.MethodName)) := ⟨List.mem_of_getElem? (i := 966) (by decide +kernel), by decide +kernel⟩
theorem ww_967 : wd (Jvm.Cond.instanceMethod ({ cls := "TypedBloodModel", name := "discard", desc := "(II)I" } : Jvm.MethodName)) := ⟨List.mem_of_getElem? (i := 967) (by decide +kernel), by decide +kernel⟩
theorem ww_968 : wd (Jvm.Cond.selects "TypedBloodModel" ({ cls := "TypedBloodModel", name := "discard", desc := "(II)I" } : Jvm.MethodName) ({ cls := "TypedBloodModel", name := "discard", desc := "(II)I" } : Jvm.MethodName)) := ⟨List.mem_of_getElem? (i := 968) (by decide +kernel), by decide +kernel⟩
theorem ww_969 : wd (Jvm.Cond.code ({ cls := "TypedBloodModel", name := "discard", desc := "(II)I" } : Jvm.MethodName) prog_7_method_35_code (5 : Nat) (Option.some Jvm.ClassFile.FieldType.int)) := ⟨List.mem_of_getElem? (i := 969) (by decide +kernel), by decide +kernel⟩
theorem ww_970 : wd (Jvm.Cond.methodLink "TypedBloodLaw" (187 : Nat) ({ cls := "TypedBloodModel", name := "quarantine", desc := "(IZ)I" } : Jvm.MethodName)) := ⟨List.mem_of_getElem? (i := 970) (by decide +kernel), by decide +kernel⟩
theorem ww_971 : wd (Jvm.Cond.instanceMethod ({ cls := "TypedBloodModel", name := "quarantine", desc := "(IZ)I" } : Jvm.MethodName)) := ⟨List.mem_of_getElem? (i := 971) (by decide +kernel), by decide +kernel⟩
theorem ww_972 : wd (Jvm.Cond.selects "TypedBloodModel" ({ cls := "TypedBloodModel", name := "quarantine", desc := "(IZ)I" } : Jvm.MethodName) ({ cls := "TypedBloodModel", name := "quarantine", desc := "(IZ)I" } : Jvm.MethodName)) := ⟨List.mem_of_getElem? (i := 972) (by decide +kernel), by decide +kernel⟩
theorem ww_973 : wd (Jvm.Cond.code ({ cls := "TypedBloodModel", name := "quarantine", desc := "(IZ)I" } : Jvm.MethodName) prog_7_method_36_code (5 : Nat) (Option.some Jvm.ClassFile.FieldType.int)) := ⟨List.mem_of_getElem? (i := 973) (by decide +kernel), by decide +kernel⟩
theorem ww_974 : wd (Jvm.Cond.methodLink "TypedBloodLaw" (190 : Nat) ({ cls := "TypedBloodModel", name := "of", desc := "(II)I" } : Jvm.MethodName)) := ⟨List.mem_of_getElem? (i := 974) (by decide +kernel), by decide +kernel⟩
theorem ww_975 : wd (Jvm.Cond.instanceMethod ({ cls := "TypedBloodModel", name := "of", desc := "(II)I" } : Jvm.MethodName)) := ⟨List.mem_of_getElem? (i := 975) (by decide +kernel), by decide +kernel⟩
theorem ww_976 : wd (Jvm.Cond.selects "TypedBloodModel" ({ cls := "TypedBloodModel", name := "of", desc := "(II)I" } : Jvm.MethodName) ({ cls := "TypedBloodModel", name := "of", desc := "(II)I" } : Jvm.MethodName)) := ⟨List.mem_of_getElem? (i := 976) (by decide +kernel), by decide +kernel⟩
theorem ww_977 : wd (Jvm.Cond.code ({ cls := "TypedBloodModel", name := "of", desc := "(II)I" } : Jvm.MethodName) prog_7_method_38_code (3 : Nat) (Option.some Jvm.ClassFile.FieldType.int)) := ⟨List.mem_of_getElem? (i := 977) (by decide +kernel), by decide +kernel⟩
theorem ww_978 : wd (Jvm.Cond.methodLink "TypedBloodModel" (144 : Nat) ({ cls := "TypedBloodModel", name := "field", desc := "(II)I" } : Jvm.MethodName)) := ⟨List.mem_of_getElem? (i := 978) (by decide +kernel), by decide +kernel⟩
theorem ww_980 : wd (Jvm.Cond.instanceMethod ({ cls := "TypedBloodModel", name := "field", desc := "(II)I" } : Jvm.MethodName)) := ⟨List.mem_of_getElem? (i := 980) (by decide +kernel), by decide +kernel⟩
theorem ww_981 : wd (Jvm.Cond.code ({ cls := "TypedBloodModel", name := "field", desc := "(II)I" } : Jvm.MethodName) prog_7_method_37_code (3 : Nat) (Option.some Jvm.ClassFile.FieldType.int)) := ⟨List.mem_of_getElem? (i := 981) (by decide +kernel), by decide +kernel⟩
theorem ww_982 : wd (Jvm.Cond.methodLink "TypedBloodLaw" (193 : Nat) ({ cls := "TypedBloodModel", name := "has", desc := "(II)I" } : Jvm.MethodName)) := ⟨List.mem_of_getElem? (i := 982) (by decide +kernel), by decide +kernel⟩
theorem ww_983 : wd (Jvm.Cond.instanceMethod ({ cls := "TypedBloodModel", name := "has", desc := "(II)I" } : Jvm.MethodName)) := ⟨List.mem_of_getElem? (i := 983) (by decide +kernel), by decide +kernel⟩
theorem ww_984 : wd (Jvm.Cond.selects "TypedBloodModel" ({ cls := "TypedBloodModel", name := "has", desc := "(II)I" } : Jvm.MethodName) ({ cls := "TypedBloodModel", name := "has", desc := "(II)I" } : Jvm.MethodName)) := ⟨List.mem_of_getElem? (i := 984) (by decide +kernel), by decide +kernel⟩
theorem ww_985 : wd (Jvm.Cond.code ({ cls := "TypedBloodModel", name := "has", desc := "(II)I" } : Jvm.MethodName) prog_7_method_39_code (3 : Nat) (Option.some Jvm.ClassFile.FieldType.int)) := ⟨List.mem_of_getElem? (i := 985) (by decide +kernel), by decide +kernel⟩
theorem ww_986 : wd (Jvm.Cond.methodLink "TypedBloodLaw" (196 : Nat) ({ cls := "TypedBloodModel", name := "who", desc := "(II)I" } : Jvm.MethodName)) := ⟨List.mem_of_getElem? (i := 986) (by decide +kernel), by decide +kernel⟩
theorem ww_987 : wd (Jvm.Cond.instanceMethod ({ cls := "TypedBloodModel", name := "who", desc := "(II)I" } : Jvm.MethodName)) := ⟨List.mem_of_getElem? (i := 987) (by decide +kernel), by decide +kernel⟩
theorem ww_988 : wd (Jvm.Cond.selects "TypedBloodModel" ({ cls := "TypedBloodModel", name := "who", desc := "(II)I" } : Jvm.MethodName) ({ cls := "TypedBloodModel", name := "who", desc := "(II)I" } : Jvm.MethodName)) := ⟨List.mem_of_getElem? (i := 988) (by decide +kernel), by decide +kernel⟩
theorem ww_989 : wd (Jvm.Cond.code ({ cls := "TypedBloodModel", name := "who", desc := "(II)I" } : Jvm.MethodName) prog_7_method_40_code (3 : Nat) (Option.some Jvm.ClassFile.FieldType.int)) := ⟨List.mem_of_getElem? (i := 989) (by decide +kernel), by decide +kernel⟩
theorem ww_990 : wd (Jvm.Cond.methodLink "TypedBloodLaw" (199 : Nat) ({ cls := "TypedBloodModel", name := "why", desc := "(II)I" } : Jvm.MethodName)) := ⟨List.mem_of_getElem? (i := 990) (by decide +kernel), by decide +kernel⟩
theorem ww_991 : wd (Jvm.Cond.instanceMethod ({ cls := "TypedBloodModel", name := "why", desc := "(II)I" } : Jvm.MethodName)) := ⟨List.mem_of_getElem? (i := 991) (by decide +kernel), by decide +kernel⟩
theorem ww_992 : wd (Jvm.Cond.selects "TypedBloodModel" ({ cls := "TypedBloodModel", name := "why", desc := "(II)I" } : Jvm.MethodName) ({ cls := "TypedBloodModel", name := "why", desc := "(II)I" } : Jvm.MethodName)) := ⟨List.mem_of_getElem? (i := 992) (by decide +kernel), by decide +kernel⟩
theorem ww_993 : wd (Jvm.Cond.code ({ cls := "TypedBloodModel", name := "why", desc := "(II)I" } : Jvm.MethodName) prog_7_method_41_code (3 : Nat) (Option.some Jvm.ClassFile.FieldType.int)) := ⟨List.mem_of_getElem? (i := 993) (by decide +kernel), by decide +kernel⟩
theorem ww_994 : wd (Jvm.Cond.methodLink "TypedBloodLaw" (202 : Nat) ({ cls := "TypedBloodModel", name := "offer", desc := "(III)I" } : Jvm.MethodName)) := ⟨List.mem_of_getElem? (i := 994) (by decide +kernel), by decide +kernel⟩
theorem ww_995 : wd (Jvm.Cond.instanceMethod ({ cls := "TypedBloodModel", name := "offer", desc := "(III)I" } : Jvm.MethodName)) := ⟨List.mem_of_getElem? (i := 995) (by decide +kernel), by decide +kernel⟩
theorem ww_996 : wd (Jvm.Cond.selects "TypedBloodModel" ({ cls := "TypedBloodModel", name := "offer", desc := "(III)I" } : Jvm.MethodName) ({ cls := "TypedBloodModel", name := "offer", desc := "(III)I" } : Jvm.MethodName)) := ⟨List.mem_of_getElem? (i := 996) (by decide +kernel), by decide +kernel⟩
theorem ww_997 : wd (Jvm.Cond.code ({ cls := "TypedBloodModel", name := "offer", desc := "(III)I" } : Jvm.MethodName) prog_7_method_44_code (7 : Nat) (Option.some Jvm.ClassFile.FieldType.int)) := ⟨List.mem_of_getElem? (i := 997) (by decide +kernel), by decide +kernel⟩
theorem ww_998 : wd (Jvm.Cond.methodLink "TypedBloodModel" (147 : Nat) ({ cls := "TypedBloodModel", name := "isOffered", desc := "(III)Z" } : Jvm.MethodName)) := ⟨List.mem_of_getElem? (i := 998) (by decide +kernel), by decide +kernel⟩
theorem ww_1000 : wd (Jvm.Cond.instanceMethod ({ cls := "TypedBloodModel", name := "isOffered", desc := "(III)Z" } : Jvm.MethodName)) := ⟨List.mem_of_getElem? (i := 1000) (by decide +kernel), by decide +kernel⟩
theorem ww_1001 : wd (Jvm.Cond.code ({ cls := "TypedBloodModel", name := "isOffered", desc := "(III)Z" } : Jvm.MethodName) prog_7_method_43_code (4 : Nat) (Option.some Jvm.ClassFile.FieldType.boolean)) := ⟨List.mem_of_getElem? (i := 1001) (by decide +kernel), by decide +kernel⟩
theorem ww_1002 : wd (Jvm.Cond.methodLink "TypedBloodModel" (150 : Nat) ({ cls := "TypedBloodModel", name := "isBefore", desc := "(II)Z" } : Jvm.MethodName)) := ⟨List.mem_of_getElem? (i := 1002) (by decide +kernel), by decide +kernel⟩
theorem ww_1004 : wd (Jvm.Cond.instanceMethod ({ cls := "TypedBloodModel", name := "isBefore", desc := "(II)Z" } : Jvm.MethodName)) := ⟨List.mem_of_getElem? (i := 1004) (by decide +kernel), by decide +kernel⟩
theorem ww_1005 : wd (Jvm.Cond.code ({ cls := "TypedBloodModel", name := "isBefore", desc := "(II)Z" } : Jvm.MethodName) prog_7_method_42_code (3 : Nat) (Option.some Jvm.ClassFile.FieldType.boolean)) := ⟨List.mem_of_getElem? (i := 1005) (by decide +kernel), by decide +kernel⟩
theorem ww_1006 : wd (Jvm.Cond.methodLink "TypedBloodLaw" (205 : Nat) ({ cls := "TypedBloodModel", name := "stock", desc := "(III)I" } : Jvm.MethodName)) := ⟨List.mem_of_getElem? (i := 1006) (by decide +kernel), by decide +kernel⟩
theorem ww_1007 : wd (Jvm.Cond.instanceMethod ({ cls := "TypedBloodModel", name := "stock", desc := "(III)I" } : Jvm.MethodName)) := ⟨List.mem_of_getElem? (i := 1007) (by decide +kernel), by decide +kernel⟩
theorem ww_1008 : wd (Jvm.Cond.selects "TypedBloodModel" ({ cls := "TypedBloodModel", name := "stock", desc := "(III)I" } : Jvm.MethodName) ({ cls := "TypedBloodModel", name := "stock", desc := "(III)I" } : Jvm.MethodName)) := ⟨List.mem_of_getElem? (i := 1008) (by decide +kernel), by decide +kernel⟩
theorem ww_1009 : wd (Jvm.Cond.code ({ cls := "TypedBloodModel", name := "stock", desc := "(III)I" } : Jvm.MethodName) prog_7_method_45_code (7 : Nat) (Option.some Jvm.ClassFile.FieldType.int)) := ⟨List.mem_of_getElem? (i := 1009) (by decide +kernel), by decide +kernel⟩
theorem ww_1010 : wd (Jvm.Cond.methodLink "TypedBloodLaw" (208 : Nat) ({ cls := "TypedBloodModel", name := "expiring", desc := "(II)I" } : Jvm.MethodName)) := ⟨List.mem_of_getElem? (i := 1010) (by decide +kernel), by decide +kernel⟩
theorem ww_1011 : wd (Jvm.Cond.instanceMethod ({ cls := "TypedBloodModel", name := "expiring", desc := "(II)I" } : Jvm.MethodName)) := ⟨List.mem_of_getElem? (i := 1011) (by decide +kernel), by decide +kernel⟩
theorem ww_1012 : wd (Jvm.Cond.selects "TypedBloodModel" ({ cls := "TypedBloodModel", name := "expiring", desc := "(II)I" } : Jvm.MethodName) ({ cls := "TypedBloodModel", name := "expiring", desc := "(II)I" } : Jvm.MethodName)) := ⟨List.mem_of_getElem? (i := 1012) (by decide +kernel), by decide +kernel⟩
theorem ww_1013 : wd (Jvm.Cond.code ({ cls := "TypedBloodModel", name := "expiring", desc := "(II)I" } : Jvm.MethodName) prog_7_method_47_code (6 : Nat) (Option.some Jvm.ClassFile.FieldType.int)) := ⟨List.mem_of_getElem? (i := 1013) (by decide +kernel), by decide +kernel⟩
theorem ww_1014 : wd (Jvm.Cond.methodLink "TypedBloodModel" (153 : Nat) ({ cls := "TypedBloodModel", name := "expiresIn", desc := "(II)Z" } : Jvm.MethodName)) := ⟨List.mem_of_getElem? (i := 1014) (by decide +kernel), by decide +kernel⟩
theorem ww_1016 : wd (Jvm.Cond.instanceMethod ({ cls := "TypedBloodModel", name := "expiresIn", desc := "(II)Z" } : Jvm.MethodName)) := ⟨List.mem_of_getElem? (i := 1016) (by decide +kernel), by decide +kernel⟩
theorem ww_1017 : wd (Jvm.Cond.code ({ cls := "TypedBloodModel", name := "expiresIn", desc := "(II)Z" } : Jvm.MethodName) prog_7_method_46_code (3 : Nat) (Option.some Jvm.ClassFile.FieldType.boolean)) := ⟨List.mem_of_getElem? (i := 1017) (by decide +kernel), by decide +kernel⟩
theorem ww_1018 : wd (Jvm.Cond.methodLink "TypedBloodLaw" (211 : Nat) ({ cls := "TypedBloodModel", name := "lookback", desc := "(II)I" } : Jvm.MethodName)) := ⟨List.mem_of_getElem? (i := 1018) (by decide +kernel), by decide +kernel⟩
theorem ww_1019 : wd (Jvm.Cond.instanceMethod ({ cls := "TypedBloodModel", name := "lookback", desc := "(II)I" } : Jvm.MethodName)) := ⟨List.mem_of_getElem? (i := 1019) (by decide +kernel), by decide +kernel⟩
theorem ww_1020 : wd (Jvm.Cond.selects "TypedBloodModel" ({ cls := "TypedBloodModel", name := "lookback", desc := "(II)I" } : Jvm.MethodName) ({ cls := "TypedBloodModel", name := "lookback", desc := "(II)I" } : Jvm.MethodName)) := ⟨List.mem_of_getElem? (i := 1020) (by decide +kernel), by decide +kernel⟩
theorem ww_1021 : wd (Jvm.Cond.code ({ cls := "TypedBloodModel", name := "lookback", desc := "(II)I" } : Jvm.MethodName) prog_7_method_49_code (8 : Nat) (Option.some Jvm.ClassFile.FieldType.int)) := ⟨List.mem_of_getElem? (i := 1021) (by decide +kernel), by decide +kernel⟩
theorem ww_1022 : wd (Jvm.Cond.methodLink "TypedBloodModel" (156 : Nat) ({ cls := "TypedBloodModel", name := "firstIssue", desc := "(II)I" } : Jvm.MethodName)) := ⟨List.mem_of_getElem? (i := 1022) (by decide +kernel), by decide +kernel⟩
theorem ww_1024 : wd (Jvm.Cond.instanceMethod ({ cls := "TypedBloodModel", name := "firstIssue", desc := "(II)I" } : Jvm.MethodName)) := ⟨List.mem_of_getElem? (i := 1024) (by decide +kernel), by decide +kernel⟩
theorem ww_1025 : wd (Jvm.Cond.code ({ cls := "TypedBloodModel", name := "firstIssue", desc := "(II)I" } : Jvm.MethodName) prog_7_method_48_code (6 : Nat) (Option.some Jvm.ClassFile.FieldType.int)) := ⟨List.mem_of_getElem? (i := 1025) (by decide +kernel), by decide +kernel⟩
theorem ww_1026 : wd (Jvm.Cond.methodLink "TypedBloodLaw" (214 : Nat) ({ cls := "TypedBloodModel", name := "received", desc := "(II)I" } : Jvm.MethodName)) := ⟨List.mem_of_getElem? (i := 1026) (by decide +kernel), by decide +kernel⟩
theorem ww_1027 : wd (Jvm.Cond.instanceMethod ({ cls := "TypedBloodModel", name := "received", desc := "(II)I" } : Jvm.MethodName)) := ⟨List.mem_of_getElem? (i := 1027) (by decide +kernel), by decide +kernel⟩
theorem ww_1028 : wd (Jvm.Cond.selects "TypedBloodModel" ({ cls := "TypedBloodModel", name := "received", desc := "(II)I" } : Jvm.MethodName) ({ cls := "TypedBloodModel", name := "received", desc := "(II)I" } : Jvm.MethodName)) := ⟨List.mem_of_getElem? (i := 1028) (by decide +kernel), by decide +kernel⟩
theorem ww_1029 : wd (Jvm.Cond.code ({ cls := "TypedBloodModel", name := "received", desc := "(II)I" } : Jvm.MethodName) prog_7_method_50_code (6 : Nat) (Option.some Jvm.ClassFile.FieldType.int)) := ⟨List.mem_of_getElem? (i := 1029) (by decide +kernel), by decide +kernel⟩
theorem ww_1030 : wd (Jvm.Cond.methodLink "TypedBloodLaw" (217 : Nat) ({ cls := "TypedBloodModel", name := "count", desc := "(II)I" } : Jvm.MethodName)) := ⟨List.mem_of_getElem? (i := 1030) (by decide +kernel), by decide +kernel⟩
theorem ww_1031 : wd (Jvm.Cond.instanceMethod ({ cls := "TypedBloodModel", name := "count", desc := "(II)I" } : Jvm.MethodName)) := ⟨List.mem_of_getElem? (i := 1031) (by decide +kernel), by decide +kernel⟩
theorem ww_1032 : wd (Jvm.Cond.selects "TypedBloodModel" ({ cls := "TypedBloodModel", name := "count", desc := "(II)I" } : Jvm.MethodName) ({ cls := "TypedBloodModel", name := "count", desc := "(II)I" } : Jvm.MethodName)) := ⟨List.mem_of_getElem? (i := 1032) (by decide +kernel), by decide +kernel⟩
theorem ww_1033 : wd (Jvm.Cond.code ({ cls := "TypedBloodModel", name := "count", desc := "(II)I" } : Jvm.MethodName) prog_7_method_51_code (5 : Nat) (Option.some Jvm.ClassFile.FieldType.int)) := ⟨List.mem_of_getElem? (i := 1033) (by decide +kernel), by decide +kernel⟩
theorem ww_1034 : wd (Jvm.Cond.arrayClass Jvm.ClassFile.FieldType.long) := ⟨List.mem_of_getElem? (i := 1034) (by decide +kernel), by decide +kernel⟩
theorem xl_0 : wd (.classLink "TypedBloodLaw" 13 "java/lang/IllegalArgumentException") ∧ wd (.castable "java/lang/IllegalArgumentException" "java/lang/IllegalArgumentException") := ⟨ww_105, ww_113⟩
theorem xl_1 : wd (.classLink "TypedBloodLaw" 19 "java/lang/IllegalStateException") ∧ wd (.castable "java/lang/IllegalStateException" "java/lang/IllegalStateException") := ⟨ww_192, ww_212⟩
theorem xl_2 : wd (.classLink "TypedBloodLaw" 25 "java/util/NoSuchElementException") ∧ wd (.castable "java/util/NoSuchElementException" "java/util/NoSuchElementException") := ⟨ww_303, ww_314⟩
theorem xl_3 : wd (.classLink "TypedBloodLaw" 31 "java/lang/UnsupportedOperationException") ∧ wd (.castable "java/lang/UnsupportedOperationException" "java/lang/UnsupportedOperationException") := ⟨ww_337, ww_365⟩
theorem xl_4 : wd (.classLink "TypedBloodLaw" 85 "java/lang/IndexOutOfBoundsException") ∧ wd (.castable "java/lang/IndexOutOfBoundsException" "java/lang/IndexOutOfBoundsException") := ⟨ww_642, ww_649⟩
theorem xl : ∀ y, y < 5 → wd (.classLink "TypedBloodLaw" (xI y) (xN y)) ∧ wd (.castable (xN y) (xN y)) := by
  intro y hy
  rcases ev_five hy with rfl | rfl | rfl | rfl | rfl
  · exact xl_0
  · exact xl_1
  · exact xl_2
  · exact xl_3
  · exact xl_4
end
section
/-! where a walk stands: the launch, the law's start and its arguments, the classes' numbers and slots, array classes (0 int, 1 long, 2 Unit, 3 Patient), the old arrays (0 script, 1 ADDED_MARK, 2 PRODUCT_LIMIT): places, lengths, contents -/
abbrev ev_E : Type := Launch × State × Array Value × va_G × (Nat → ClassId) × (Nat → Nat) × (Nat → Nat) × (Nat → Nat → Int32)
def eL (E : ev_E) : Launch := E.1
def eS (E : ev_E) : State := E.2.1
def eA (E : ev_E) : Array Value := E.2.2.1
def eD (E : ev_E) : va_G := E.2.2.2.1
def eC (E : ev_E) : Nat → ClassId := E.2.2.2.2.1
def eO (E : ev_E) : Nat → Nat := E.2.2.2.2.2.1
def eN (E : ev_E) : Nat → Nat := E.2.2.2.2.2.2.1
def eX (E : ev_E) : Nat → Nat → Int32 := E.2.2.2.2.2.2.2
def eZ (E : ev_E) : Nat := (eS E).heap.size
def ZM : Nat := 4096
/-- a method: its name, bytes, locals, answer, table of handlers, and how deep its calls may go -/
abbrev ev_M : Type := MethodName × ByteArray × Nat × Option FieldType × List (Nat × Nat × Nat × Nat) × Nat
def mY (M : ev_M) : MethodName := M.1
def mB (M : ev_M) : ByteArray := M.2.1
def mL (M : ev_M) : Nat := M.2.2.1
def mR (M : ev_M) : Option FieldType := M.2.2.2.1
def mH (M : ev_M) : List (Nat × Nat × Nat × Nat) := M.2.2.2.2.1
def mD (M : ev_M) : Nat := M.2.2.2.2.2
def fv (h : ev_H) (ci k i f : Nat) : ev_V := cond (isI ci f) (vI (gI h k i f)) (gR h k i f)
theorem arrV_congr {cA : ClassId} {n : Nat} {f g : Nat → Value} (q : ∀ j, j < n → f j = g j) : arrV cA n f = arrV cA n g := by
  have e : (Array.ofFn (n := n) fun j => f j.val) = Array.ofFn (n := n) fun j => g j.val := by
    congr 1
    funext j
    exact q j.val j.isLt
  unfold arrV
  rw [e]
/-- a live cell in the machine's heap -/
def cr (E : ev_E) (ad : Nat → Nat → Nat) (h : ev_H) (k i : Nat) (H : Heap) : Prop :=
  ((shp k i).1 = 0 → t_OB (ad k i) ((eD E).1 (shp k i).2) (nfl (shp k i).2) ((eD E).2 (shp k i).2) H (fun f => cv ad (fv h (shp k i).2 k i f)) ∧ ∀ f, f < nfl (shp k i).2 → lvV h (fv h (shp k i).2 k i f)) ∧
  ((shp k i).1 = 1 → H[ad k i]? = some (arrV (eC E 0) (shp k i).2 (fun j => .int (gI h k i j)))) ∧
  ((shp k i).1 = 2 → H[ad k i]? = some (arrV (eC E 1) (shp k i).2 (fun j => .long (gL h k i j)))) ∧
  (3 ≤ (shp k i).1 → H[ad k i]? = some (arrV (eC E ((shp k i).1 - 1)) (shp k i).2 (fun j => cv ad (gR h k i j))) ∧ ∀ j, j < (shp k i).2 → lvV h (gR h k i j))
theorem cr_kept {E : ev_E} {ad ad' : Nat → Nat → Nat} {h h' : ev_H} {k i : Nat} {H H' : Heap} (hx : xt ad h ad' h') (ha : ad' k i = ad k i) (hq : H'[ad k i]? = H[ad k i]?) (hI : ∀ j, gI h' k i j = gI h k i j) (hR : ∀ j, gR h' k i j = gR h k i j) (hL : ∀ j, gL h' k i j = gL h k i j) (c : cr E ad h k i H) : cr E ad' h' k i H' := by
  obtain ⟨c0, c1, c2, c3⟩ := c
  have hf : ∀ ci f, fv h' ci k i f = fv h ci k i f := fun ci f => by unfold fv; rw [hI, hR]
  refine ⟨fun z => ?_, fun z => ?_, fun z => ?_, fun z => ?_⟩
  · obtain ⟨q1, q2⟩ := c0 z
    refine ⟨?_, fun f hf' => ?_⟩
    · rw [ha]
      refine (q1.kept hq).to fun f hf' => ?_
      rw [hf]
      exact ((hx.V (q2 f hf')).2).symm
    · rw [hf]
      exact (hx.V (q2 f hf')).1
  · rw [ha, hq, c1 z]
    congr 2
    funext j
    rw [hI]
  · rw [ha, hq, c2 z]
    congr 2
    funext j
    rw [hL]
  · obtain ⟨q1, q2⟩ := c3 z
    refine ⟨?_, fun j hj => ?_⟩
    · rw [ha, hq, q1]
      refine congrArg some (arrV_congr fun j hj => ?_)
      rw [hR]
      exact ((hx.V (q2 j hj)).2).symm
    · rw [hR]
      exact (hx.V (q2 j hj)).1
/-- the run's heap in the machine's -/
def Rl (E : ev_E) (ad : Nat → Nat → Nat) (h : ev_H) (H : Heap) : Prop :=
  H.size = eZ E + cZ h ∧ cZ h ≤ ZM ∧ (∀ q, q < eZ E → H[q]? = (eS E).heap[q]?) ∧ (∀ i, i < 3 → ad 5 i = eO E i) ∧
  (∀ k i, k < 4 → i < cnt h k → eZ E ≤ ad k i ∧ ad k i < H.size ∧ cr E ad h k i H) ∧
  (∀ k i k' i', k < 4 → k' < 4 → i < cnt h k → i' < cnt h k' → ad k i = ad k' i' → k = k' ∧ i = i')
theorem cnt_eq {h h' : ev_H} (q : h'.2.2.2 = h.2.2.2) (k : Nat) : cnt h' k = cnt h k := by
  unfold cnt cF cU cP cN; rw [q]
theorem xt_eq {ad : Nat → Nat → Nat} {h h' : ev_H} (q : h'.2.2.2 = h.2.2.2) : xt ad h ad h' := by
  intro k i z
  refine ⟨?_, fun _ => rfl⟩
  unfold lvs at z ⊢
  rw [cnt_eq q]
  exact z
/-- one cell is written -/
theorem Rl.st {E : ev_E} {ad : Nat → Nat → Nat} {h h' : ev_H} {H H' : Heap} {k i : Nat} (hR : Rl E ad h H) (hk : k < 4) (hi : i < cnt h k) (hz : H'.size = H.size) (ho : ∀ q, q ≠ ad k i → H'[q]? = H[q]?) (hc : h'.2.2.2 = h.2.2.2)
    (hm : ∀ k' i' j, ¬ (k' = k ∧ i' = i) → gI h' k' i' j = gI h k' i' j ∧ gR h' k' i' j = gR h k' i' j ∧ gL h' k' i' j = gL h k' i' j) (hcr : cr E ad h' k i H') : Rl E ad h' H' := by
  obtain ⟨r1, r2, r3, r4, r5, r6⟩ := hR
  have hZ : cZ h' = cZ h := by unfold cZ; rw [hc]
  refine ⟨by rw [hz, hZ]; exact r1, by rw [hZ]; exact r2, fun q hq => ?_, r4, fun k' i' a b => ?_, fun k1 i1 k2 i2 a b c d => ?_⟩
  · rw [ho q]
    · exact r3 q hq
    · have := (r5 k i hk hi).1
      omega
  · rw [cnt_eq hc] at b
    obtain ⟨q1, q2, q3⟩ := r5 k' i' a b
    refine ⟨q1, by rw [hz]; exact q2, ?_⟩
    by_cases e : k' = k ∧ i' = i
    · obtain ⟨rfl, rfl⟩ := e
      exact hcr
    · refine cr_kept (xt_eq hc) rfl (ho _ fun z => e (r6 k' i' k i a hk b hi z)) (fun j => (hm k' i' j e).1) (fun j => (hm k' i' j e).2.1) (fun j => (hm k' i' j e).2.2) q3
  · rw [cnt_eq hc] at c d
    exact r6 k1 i1 k2 i2 a b c d
def adN (ad : Nat → Nat → Nat) (k i a : Nat) : Nat → Nat → Nat := fun x y => if x = k ∧ y = i then a else ad x y
theorem cnt_nw (h : ev_H) (k k' : Nat) (hk : k < 4) (hk' : k' < 4) : cnt (nw h k) k' = cnt h k' + (if k' = k then 1 else 0) := by
  have e : k = 0 ∨ k = 1 ∨ k = 2 ∨ k = 3 := by omega
  have e' : k' = 0 ∨ k' = 1 ∨ k' = 2 ∨ k' = 3 := by omega
  rcases e with rfl | rfl | rfl | rfl <;> rcases e' with rfl | rfl | rfl | rfl <;> rfl
theorem xt_nw {ad : Nat → Nat → Nat} {h : ev_H} {k a : Nat} (hk : k < 4) : xt ad h (adN ad k (cnt h k) a) (nw h k) := by
  intro k' i z
  refine ⟨?_, fun _ => ?_⟩
  · rcases z with z | z | ⟨z1, z2⟩
    · exact Or.inl z
    · exact Or.inr (Or.inl z)
    · refine Or.inr (Or.inr ⟨z1, ?_⟩)
      rw [cnt_nw h k k' hk z1]
      omega
  · unfold adN
    rw [if_neg]
    rintro ⟨rfl, rfl⟩
    rcases z with z | z | ⟨z1, z2⟩
    · omega
    · omega
    · omega
/-- one cell is made -/
theorem Rl.new1 {E : ev_E} {ad : Nat → Nat → Nat} {h : ev_H} {H H' : Heap} {k : Nat} (hR : Rl E ad h H) (hk : k < 4) (hZ : cZ h < ZM) (hz : H'.size = H.size + 1) (ho : ∀ q, q < H.size → H'[q]? = H[q]?)
    (hcr : cr E (adN ad k (cnt h k) H.size) (nw h k) k (cnt h k) H') : Rl E (adN ad k (cnt h k) H.size) (nw h k) H' := by
  obtain ⟨r1, r2, r3, r4, r5, r6⟩ := hR
  have hx : xt ad h (adN ad k (cnt h k) H.size) (nw h k) := xt_nw hk
  have hold : ∀ k' i', k' < 4 → i' < cnt (nw h k) k' → (k' = k ∧ i' = cnt h k) ∨ (i' < cnt h k' ∧ ¬ (k' = k ∧ i' = cnt h k)) := by
    intro k' i' a b
    rw [cnt_nw h k k' hk a] at b
    by_cases e : k' = k ∧ i' = cnt h k
    · exact Or.inl e
    · refine Or.inr ⟨?_, e⟩
      by_cases e2 : k' = k
      · subst e2
        rw [if_pos rfl] at b
        have : ¬ i' = cnt h k' := fun z => e ⟨rfl, z⟩
        omega
      · rw [if_neg e2] at b
        omega
  have hZ' : cZ (nw h k) = cZ h + 1 := rfl
  refine ⟨by rw [hz, hZ', r1]; omega, by rw [hZ']; exact hZ, fun q hq => ?_, fun i hi => ?_, fun k' i' a b => ?_, fun k1 i1 k2 i2 a b c d e => ?_⟩
  · rw [ho q (by omega)]
    exact r3 q hq
  · show (if 5 = k ∧ i = cnt h k then H.size else ad 5 i) = _
    rw [if_neg (by omega)]
    exact r4 i hi
  · rcases hold k' i' a b with ⟨rfl, rfl⟩ | ⟨e1, e2⟩
    · have : adN ad k' (cnt h k') H.size k' (cnt h k') = H.size := by unfold adN; rw [if_pos ⟨rfl, rfl⟩]
      refine ⟨by rw [this]; omega, by rw [this]; omega, hcr⟩
    · obtain ⟨q1, q2, q3⟩ := r5 k' i' a e1
      have e3 : adN ad k (cnt h k) H.size k' i' = ad k' i' := by unfold adN; rw [if_neg e2]
      refine ⟨by rw [e3]; exact q1, by rw [e3]; omega, ?_⟩
      refine cr_kept hx e3 (ho _ q2) (fun j => ?_) (fun j => ?_) (fun j => ?_) q3
      · show (if k' = k ∧ i' = cnt h k then _ else _) = _
        rw [if_neg e2]; rfl
      · show (if k' = k ∧ i' = cnt h k then _ else _) = _
        rw [if_neg e2]; rfl
      · show (if k' = k ∧ i' = cnt h k then _ else _) = _
        rw [if_neg e2]; rfl
  · rcases hold k1 i1 a c with ⟨rfl, rfl⟩ | ⟨e1, e2⟩
    · rcases hold k2 i2 b d with ⟨rfl, rfl⟩ | ⟨e3, e4⟩
      · exact ⟨rfl, rfl⟩
      · exfalso
        unfold adN at e
        rw [if_pos ⟨rfl, rfl⟩, if_neg e4] at e
        have := (r5 k2 i2 b e3).2.1
        omega
    · rcases hold k2 i2 b d with ⟨rfl, rfl⟩ | ⟨e3, e4⟩
      · exfalso
        unfold adN at e
        rw [if_neg e2, if_pos ⟨rfl, rfl⟩] at e
        have := (r5 k1 i1 a e1).2.1
        omega
      · unfold adN at e
        rw [if_neg e2, if_neg e4] at e
        exact r6 k1 i1 k2 i2 a b e1 e3 e
theorem xt_nx {ad : Nat → Nat → Nat} {h : ev_H} : xt ad h ad (nx h) := fun _ _ z => ⟨z, fun _ => rfl⟩
theorem Rl.thr1 {E : ev_E} {ad : Nat → Nat → Nat} {h : ev_H} {H H' : Heap} (hR : Rl E ad h H) (hZ : cZ h < ZM) (hz : H'.size = H.size + 1) (ho : ∀ q, q < H.size → H'[q]? = H[q]?) : Rl E ad (nx h) H' := by
  obtain ⟨r1, r2, r3, r4, r5, r6⟩ := hR
  have hZ' : cZ (nx h) = cZ h + 1 := rfl
  refine ⟨by rw [hz, hZ', r1]; omega, by rw [hZ']; exact hZ, fun q hq => ?_, r4, fun k' i' a b => ?_, r6⟩
  · rw [ho q (by omega)]
    exact r3 q hq
  · obtain ⟨q1, q2, q3⟩ := r5 k' i' a b
    exact ⟨q1, by omega, cr_kept xt_nx rfl (ho _ q2) (fun _ => rfl) (fun _ => rfl) (fun _ => rfl) q3⟩
end
section
/-! the words that hold at the law's start; where a method's walk stands; its end -/
/-- the two static arrays' contents -/
def tab (i j : Nat) : Int32 := cond (Nat.beq i 1) (([0, 1, 2, 4] : List Int32).getD j 0) (([7200, 1440, 20160, 1440] : List Int32).getD j 0)
/-- what holds at the law's start -/
def ev_G (E : ev_E) : Prop :=
  (eL E).stackTraces = false ∧ (∀ w ∈ lw_tbl, w.before (eA E) (eS E) = true) ∧
  va_K (eD E) vC [(eC E 0, .int), (eC E 1, .long), (eC E 2, .object "TypedBlood$Unit"), (eC E 3, .object "TypedBlood$Patient")] (eS E) ∧
  (∀ i, i < 3 → eO E i < eZ E ∧ va_T .int (eO E i) (eN E i) (fun j => .int (eX E i j)) (fun q => eZ E ≤ q) (eS E) (eS E).heap) ∧
  (∀ i, i < 2 → va_Z "TypedBlood" (cond (Nat.beq i 0) "ADDED_MARK" "PRODUCT_LIMIT") "[I" (.ref (eO E (i + 1))) (fun q => eZ E ≤ q) (eS E) (eS E).heap) ∧
  vx_Zq Bundle.tN "UNASSIGNED_STACK" Bundle.steD (fun q => eZ E ≤ q) (eS E) (eS E).heap ∧ vx_Zq Bundle.tN "SUPPRESSED_SENTINEL" Bundle.listD (fun q => eZ E ≤ q) (eS E) (eS E).heap ∧
  (∀ own is text, Cond.stringRef own is text ∈ lw_tbl → ∃ sa, vk_R own is text sa (eS E)) ∧
  (∀ x y, x < 5 → y < 5 → x ≠ y → va_Nc (xN x) (xN y) (eS E)) ∧
  (eN E 1 = 4 ∧ eN E 2 = 4 ∧ ∀ j, j < 4 → eX E 1 j = tab 1 j ∧ eX E 2 j = tab 2 j)
/-- a method's invocation -/
def ev_I (E : ev_E) (M : ev_M) (p : Program) (R : Room) (s : State) (m : MethodId) (meth : Method) (c : Code) : Prop :=
  p.tables.exec = Jvm.exec ∧ c.code = mB M ∧ meth.sig.returnType = mR M ∧ c.maxLocals = mL M ∧ s.vm.findClass (mY M).cls = some m.cls ∧ meth.name = (mY M).name ∧ meth.locks = false ∧ c.exceptionTable.toList = tableOf (mH M) ∧
  (eS E).WarmedH s.vm ∧ (∀ q, q < eZ E → s.heap[q]? = (eS E).heap[q]?) ∧ eZ E ≤ s.heap.size ∧ mD M + 2 ≤ R.frames ∧ 30 * mD M + 124 ≤ R.locals ∧ eZ E + ZM ≤ s.heap.size + R.cells ∧ 512 * (eZ E + ZM - s.heap.size) ≤ R.slots
def ev_C (E : ev_E) (M : ev_M) (p : Program) (R : Room) (s : State) (m : MethodId) (meth : Method) (c : Code) (H : Heap) (locs : List Loc) (cells slots : Nat) (ad ad0 : Nat → Nat → Nat) (h h0 : ev_H) : Prop :=
  ev_G E ∧ ev_I E M p R s m meth c ∧ Rl E ad h H ∧ s.heap.size ≤ H.size ∧ cells = H.size - s.heap.size ∧ slots = 512 * (H.size - s.heap.size) ∧ (∀ q ∈ locs, eZ E ≤ q.base) ∧ xt ad0 h0 ad h
/-- how a method ended -/
def ev_O (ad : Nat → Nat → Nat) (h : ev_H) (s : State) (r : Option ev_V ⊕ Nat) (o : Outcome) (t : State) : Prop := match r with
  | .inl none => o = .returned none
  | .inl (some v) => o = .returned (some (cv ad v)) ∧ lvV h v
  | .inr x => x < 5 ∧ ∃ q ce, o = .threw q ∧ t.heap[q]? = some ce ∧ ce.vm = .none ∧ s.vm.findClass (xN x) = some ce.cls
def ev_Q (E : ev_E) (s : State) (ad0 : Nat → Nat → Nat) (h0 : ev_H) (P : Option ev_V ⊕ Nat → ev_H → Prop) (o : Outcome) (t : State) : Prop :=
  ∃ r h' ad', s.WarmedH t.vm ∧ (∃ L, s.sameButNew ({ t with vm := s.vm } : State) L (t.heap.size - s.heap.size) (512 * (t.heap.size - s.heap.size)) ∧ ∀ q ∈ L, eZ E ≤ q.base) ∧
    Rl E ad' h' t.heap ∧ xt ad0 h0 ad' h' ∧ ev_O ad' h' s r o t ∧ P r h'
def ev_QE (E : ev_E) (s : State) (below : List Frame) (ad0 : Nat → Nat → Nat) (h0 : ev_H) (P : Option ev_V ⊕ Nat → ev_H → Prop) : State → Prop := fun t => ∃ o, t.status = .running ∧ Ended t below o ∧ ev_Q E s ad0 h0 P o t
def Ev (E : ev_E) (M : ev_M) (pc : Nat) (ls : List (Nat × ev_V)) (st : List ev_V) (h : ev_H) (P : Option ev_V ⊕ Nat → ev_H → Prop) : Prop :=
  ∀ (p : Program) (e : Env) (R : Room) (s : State) (m : MethodId) (args : Array Value) (below : List Frame) (meth : Method) (c : Code) (H : Heap) (locs : List Loc) (cells slots : Nat) (lsA : Array Slot) (ad ad0 : Nat → Nat → Nat) (h0 : ev_H),
    ev_C E M p R s m meth c H locs cells slots ad ad0 h h0 → ev_LR ad h (mL M) ls lsA → lvS h st →
    W p (eL E) e R s m args below meth c H locs cells slots (ev_QE E s below ad0 h0 P) (F0 m pc lsA (st.map (cv ad)))
theorem W.mono {p : Program} {l : Launch} {e : Env} {R : Room} {s : State} {m : MethodId} {args : Array Value} {below : List Frame} {meth : Method} {c : Code} {H : Heap} {locs : List Loc} {cells slots : Nat} {Q Q' : State → Prop} {g : JFrame} (hq : ∀ t, Q t → Q' t) (k : W p l e R s m args below meth c H locs cells slots Q g) : W p l e R s m args below meth c H locs cells slots Q' g := by
  intro T hT X
  obtain ⟨t, a, b⟩ := k T hT X
  exact ⟨t, a, hq t b⟩
section EvC
variable {E : ev_E} {M : ev_M} {p : Program} {R : Room} {s : State} {m : MethodId} {meth : Method} {c : Code} {H : Heap} {locs : List Loc} {cells slots : Nat} {ad ad0 : Nat → Nat → Nat} {h h0 : ev_H}
theorem ev_C.ex (q : ev_C E M p R s m meth c H locs cells slots ad ad0 h h0) : p.tables.exec = Jvm.exec := q.2.1.1
theorem ev_C.cd (q : ev_C E M p R s m meth c H locs cells slots ad ad0 h h0) : c.code = mB M := q.2.1.2.1
theorem ev_C.ml (q : ev_C E M p R s m meth c H locs cells slots ad ad0 h h0) : c.maxLocals = mL M := q.2.1.2.2.2.1
theorem ev_C.own (q : ev_C E M p R s m meth c H locs cells slots ad ad0 h h0) : s.vm.findClass (mY M).cls = some m.cls := q.2.1.2.2.2.2.1
theorem ev_C.wm (q : ev_C E M p R s m meth c H locs cells slots ad ad0 h h0) : (eS E).WarmedH s.vm := q.2.1.2.2.2.2.2.2.2.2.1
theorem ev_C.w (q : ev_C E M p R s m meth c H locs cells slots ad ad0 h h0) {w : Cond} (hw : wd w) (args : Array Value) : w.before args s = true := gw_at hw.2 q.wm (q.1.2.1 w hw.1)
theorem ev_C.hts (q : ev_C E M p R s m meth c H locs cells slots ad ad0 h h0) (args : Array Value) : ∀ w ∈ lw_tbl.filter goodWord, w.before args s = true := fun w hw => q.w ⟨(List.mem_filter.mp hw).1, by unfold gw; rw [(List.mem_filter.mp hw).2]; rfl⟩ args
theorem ev_C.K (q : ev_C E M p R s m meth c H locs cells slots ad ad0 h h0) : va_K (eD E) vC [(eC E 0, .int), (eC E 1, .long), (eC E 2, .object "TypedBlood$Unit"), (eC E 3, .object "TypedBlood$Patient")] s := va_K.moved q.wm.alike q.1.2.2.1
theorem ev_C.old (q : ev_C E M p R s m meth c H locs cells slots ad ad0 h h0) : va_S (fun z => eZ E ≤ z) s.heap H locs := by
  obtain ⟨-, i, r, z, -, -, l, -⟩ := q
  refine ⟨z, fun a _ ha => ?_, l⟩
  have hlt : a < eZ E := Nat.not_le.mp ha
  rw [r.2.2.1 a hlt, i.2.2.2.2.2.2.2.2.2.1 a hlt]
end EvC
section EvR
variable {E : ev_E} {M : ev_M} {pc : Nat} {ls : List (Nat × ev_V)} {st : List ev_V} {h : ev_H} {P : Option ev_V ⊕ Nat → ev_H → Prop}
theorem Ev_sub {ls' : List (Nat × ev_V)} (hs : ∀ i v, lget ls' i = some v → lget ls i = some v) (k : Ev E M pc ls' st h P) : Ev E M pc ls st h P :=
  fun p e R s m args below meth c H locs cells slots lsA ad ad0 h0 hC hL hS => k p e R s m args below meth c H locs cells slots lsA ad ad0 h0 hC (hL.sub hs) hS
theorem Ev_mono {P' : Option ev_V ⊕ Nat → ev_H → Prop} (hp : ∀ r h', P r h' → P' r h') (k : Ev E M pc ls st h P) : Ev E M pc ls st h P' := by
  intro p e R s m args below meth c H locs cells slots lsA ad ad0 h0 hC hL hS
  refine W.mono (fun t q => ?_) (k p e R s m args below meth c H locs cells slots lsA ad ad0 h0 hC hL hS)
  obtain ⟨o, a1, a2, r, h', ad', b1, b2, b3, b4, b5, b6⟩ := q
  exact ⟨o, a1, a2, r, h', ad', b1, b2, b3, b4, b5, hp r h' b6⟩
theorem Ev_iconst {n : Int} {v : Int32} (hd : decode (mB M) pc = .ok (.iconst n, 1)) (hv : Int32.ofInt n = v) (k : Ev E M (pc + 1) ls (vI v :: st) h P) : Ev E M pc ls st h P := by
  intro p e R s m args below meth c H locs cells slots lsA ad ad0 h0 hC hL hS
  exact lv_iconst hC.ex hC.cd hd hv (k p e R s m args below meth c H locs cells slots lsA ad ad0 h0 hC hL (lvS_i hS))
theorem Ev_bipush {n : Int} {v : Int32} (hd : decode (mB M) pc = .ok (.bipush n, 2)) (hv : (Int8.ofInt n).toInt32 = v) (k : Ev E M (pc + 2) ls (vI v :: st) h P) : Ev E M pc ls st h P := by
  intro p e R s m args below meth c H locs cells slots lsA ad ad0 h0 hC hL hS
  exact lv_bipush hC.ex hC.cd hd hv (k p e R s m args below meth c H locs cells slots lsA ad ad0 h0 hC hL (lvS_i hS))
theorem Ev_sipush {n : Int} {v : Int32} (hd : decode (mB M) pc = .ok (.sipush n, 3)) (hv : (Int16.ofInt n).toInt32 = v) (k : Ev E M (pc + 3) ls (vI v :: st) h P) : Ev E M pc ls st h P := by
  intro p e R s m args below meth c H locs cells slots lsA ad ad0 h0 hC hL hS
  exact lv_sipush hC.ex hC.cd hd hv (k p e R s m args below meth c H locs cells slots lsA ad ad0 h0 hC hL (lvS_i hS))
theorem Ev_ldc {idx : Nat} {v : Int32} (hd : decode (mB M) pc = .ok (.ldc idx, 2)) (hw : wd (.constant (mY M).cls idx v)) (k : Ev E M (pc + 2) ls (vI v :: st) h P) : Ev E M pc ls st h P := by
  intro p e R s m args below meth c H locs cells slots lsA ad ad0 h0 hC hL hS
  exact lv_ldc hC.ex hC.cd hC.own (hC.w hw args) hd (k p e R s m args below meth c H locs cells slots lsA ad ad0 h0 hC hL (lvS_i hS))
theorem Ev_ldcw {idx : Nat} {v : Int32} (hd : decode (mB M) pc = .ok (.ldc_w idx, 3)) (hw : wd (.constant (mY M).cls idx v)) (k : Ev E M (pc + 3) ls (vI v :: st) h P) : Ev E M pc ls st h P := by
  intro p e R s m args below meth c H locs cells slots lsA ad ad0 h0 hC hL hS
  exact lv_ldcw hC.ex hC.cd hC.own (hC.w hw args) hd (k p e R s m args below meth c H locs cells slots lsA ad ad0 h0 hC hL (lvS_i hS))
theorem Ev_iload {i : Nat} {x : Int32} (hd : decode (mB M) pc = .ok (.iload i, 2)) (hl : lget ls i = some (vI x)) (k : Ev E M (pc + 2) ls (vI x :: st) h P) : Ev E M pc ls st h P := by
  intro p e R s m args below meth c H locs cells slots lsA ad ad0 h0 hC hL hS
  exact lv_iload hC.ex hC.cd hd (hL.at hl).1 (k p e R s m args below meth c H locs cells slots lsA ad ad0 h0 hC hL (lvS_i hS))
theorem Ev_iload_n {i : Fin 4} {x : Int32} (hd : decode (mB M) pc = .ok (.iload_n i, 1)) (hl : lget ls i.val = some (vI x)) (k : Ev E M (pc + 1) ls (vI x :: st) h P) : Ev E M pc ls st h P := by
  intro p e R s m args below meth c H locs cells slots lsA ad ad0 h0 hC hL hS
  exact lv_iload_n hC.ex hC.cd hd rfl (hL.at hl).1 (k p e R s m args below meth c H locs cells slots lsA ad ad0 h0 hC hL (lvS_i hS))
theorem Ev_aload {i : Nat} {a b : Nat} (hd : decode (mB M) pc = .ok (.aload i, 2)) (hl : lget ls i = some (vR a b)) (k : Ev E M (pc + 2) ls (vR a b :: st) h P) : Ev E M pc ls st h P := by
  intro p e R s m args below meth c H locs cells slots lsA ad ad0 h0 hC hL hS
  obtain ⟨h1, h2⟩ := hL.at hl
  have k' := k p e R s m args below meth c H locs cells slots lsA ad ad0 h0 hC hL (lvS_c h2 hS)
  obtain ⟨z, hz⟩ : ∃ z, cv ad (vR a b) = .ref z := by
    show ∃ z, (if a = 4 then Value.ref b else Value.ref (ad a b)) = .ref z
    by_cases h4 : a = 4
    · exact ⟨b, by rw [if_pos h4]⟩
    · exact ⟨ad a b, by rw [if_neg h4]⟩
  rw [List.map_cons, hz] at k'
  rw [hz] at h1
  exact lv_aload hC.ex hC.cd hd h1 k'
theorem Ev_aload_n {i : Fin 4} {a b : Nat} (hd : decode (mB M) pc = .ok (.aload_n i, 1)) (hl : lget ls i.val = some (vR a b)) (k : Ev E M (pc + 1) ls (vR a b :: st) h P) : Ev E M pc ls st h P := by
  intro p e R s m args below meth c H locs cells slots lsA ad ad0 h0 hC hL hS
  obtain ⟨h1, h2⟩ := hL.at hl
  have k' := k p e R s m args below meth c H locs cells slots lsA ad ad0 h0 hC hL (lvS_c h2 hS)
  obtain ⟨z, hz⟩ : ∃ z, cv ad (vR a b) = .ref z := by
    show ∃ z, (if a = 4 then Value.ref b else Value.ref (ad a b)) = .ref z
    by_cases h4 : a = 4
    · exact ⟨b, by rw [if_pos h4]⟩
    · exact ⟨ad a b, by rw [if_neg h4]⟩
  rw [List.map_cons, hz] at k'
  rw [hz] at h1
  exact lv_aload_n hC.ex hC.cd hd rfl h1 k'
theorem Ev_istore {i : Nat} {x : Int32} (hd : decode (mB M) pc = .ok (.istore i, 2)) (hn : Nat.blt i (mL M) = true) (k : Ev E M (pc + 2) (lset ls i (vI x)) st h P) : Ev E M pc ls (vI x :: st) h P := by
  intro p e R s m args below meth c H locs cells slots lsA ad ad0 h0 hC hL hS
  obtain ⟨A', e1, hL'⟩ := hL.set (i := i) (by simpa [Nat.blt_eq] using hn) (v := vI x) trivial rfl
  intro T hT X
  obtain ⟨t, a, b⟩ := k p e R s m args below meth c H locs cells slots A' ad ad0 h0 hC hL' (lvS_2 hS) T hT X
  refine ⟨t, ?_, b⟩
  have e1' : storeLocals lsA i (.int x) = some A' := e1
  have hb := hC.cd
  have hexec := hC.ex
  show Steps p.tables e below (T.setTop (F0 m pc lsA (.int x :: st.map (cv ad)))) t
  jvm_step X.here [X.here.top, ↓top_set X.here.top, hexec, hb, hd, e1']
  exact a
theorem Ev_istore_n {i : Fin 4} {x : Int32} (hd : decode (mB M) pc = .ok (.istore_n i, 1)) (hn : Nat.blt i.val (mL M) = true) (k : Ev E M (pc + 1) (lset ls i.val (vI x)) st h P) : Ev E M pc ls (vI x :: st) h P := by
  intro p e R s m args below meth c H locs cells slots lsA ad ad0 h0 hC hL hS
  obtain ⟨A', e1, hL'⟩ := hL.set (i := i.val) (by simpa [Nat.blt_eq] using hn) (v := vI x) trivial rfl
  intro T hT X
  obtain ⟨t, a, b⟩ := k p e R s m args below meth c H locs cells slots A' ad ad0 h0 hC hL' (lvS_2 hS) T hT X
  refine ⟨t, ?_, b⟩
  have e1' : storeLocals lsA i.val (.int x) = some A' := e1
  have hb := hC.cd
  have hexec := hC.ex
  show Steps p.tables e below (T.setTop (F0 m pc lsA (.int x :: st.map (cv ad)))) t
  jvm_step X.here [X.here.top, ↓top_set X.here.top, hexec, hb, hd, e1']
  exact a
theorem Ev_astore {i : Nat} {a' b' : Nat} (hd : decode (mB M) pc = .ok (.astore i, 2)) (hn : Nat.blt i (mL M) = true) (k : Ev E M (pc + 2) (lset ls i (vR a' b')) st h P) : Ev E M pc ls (vR a' b' :: st) h P := by
  intro p e R s m args below meth c H locs cells slots lsA ad ad0 h0 hC hL hS
  obtain ⟨z, hz⟩ : ∃ z, cv ad (vR a' b') = .ref z := by
    show ∃ z, (if a' = 4 then Value.ref b' else Value.ref (ad a' b')) = .ref z
    by_cases h4 : a' = 4
    · exact ⟨b', by rw [if_pos h4]⟩
    · exact ⟨ad a' b', by rw [if_neg h4]⟩
  obtain ⟨A', e1, hL'⟩ := hL.set (i := i) (by simpa [Nat.blt_eq] using hn) (v := vR a' b') (lvS_1 hS) (by rw [hz]; rfl)
  intro T hT X
  obtain ⟨t, a, b⟩ := k p e R s m args below meth c H locs cells slots A' ad ad0 h0 hC hL' (lvS_2 hS) T hT X
  refine ⟨t, ?_, b⟩
  rw [hz] at e1
  have hb := hC.cd
  have hexec := hC.ex
  rw [List.map_cons, hz]
  show Steps p.tables e below (T.setTop (F0 m pc lsA (.ref z :: st.map (cv ad)))) t
  jvm_step X.here [X.here.top, ↓top_set X.here.top, hexec, hb, hd, e1, Value.isRef]
  exact a
theorem Ev_astore_n {i : Fin 4} {a' b' : Nat} (hd : decode (mB M) pc = .ok (.astore_n i, 1)) (hn : Nat.blt i.val (mL M) = true) (k : Ev E M (pc + 1) (lset ls i.val (vR a' b')) st h P) : Ev E M pc ls (vR a' b' :: st) h P := by
  intro p e R s m args below meth c H locs cells slots lsA ad ad0 h0 hC hL hS
  obtain ⟨z, hz⟩ : ∃ z, cv ad (vR a' b') = .ref z := by
    show ∃ z, (if a' = 4 then Value.ref b' else Value.ref (ad a' b')) = .ref z
    by_cases h4 : a' = 4
    · exact ⟨b', by rw [if_pos h4]⟩
    · exact ⟨ad a' b', by rw [if_neg h4]⟩
  obtain ⟨A', e1, hL'⟩ := hL.set (i := i.val) (by simpa [Nat.blt_eq] using hn) (v := vR a' b') (lvS_1 hS) (by rw [hz]; rfl)
  intro T hT X
  obtain ⟨t, a, b⟩ := k p e R s m args below meth c H locs cells slots A' ad ad0 h0 hC hL' (lvS_2 hS) T hT X
  refine ⟨t, ?_, b⟩
  rw [hz] at e1
  have hb := hC.cd
  have hexec := hC.ex
  rw [List.map_cons, hz]
  show Steps p.tables e below (T.setTop (F0 m pc lsA (.ref z :: st.map (cv ad)))) t
  jvm_step X.here [X.here.top, ↓top_set X.here.top, hexec, hb, hd, e1, Value.isRef]
  exact a
theorem Ev_iinc {i : Nat} {n : Int} {x d : Int32} (hd : decode (mB M) pc = .ok (.iinc i n, 3)) (hl : lget ls i = some (vI x)) (hv : Int32.ofInt n = d) (hn : Nat.blt i (mL M) = true) (k : Ev E M (pc + 3) (lset ls i (vI (x + d))) st h P) : Ev E M pc ls st h P := by
  intro p e R s m args below meth c H locs cells slots lsA ad ad0 h0 hC hL hS
  have hg := (hL.at hl).1
  have hg' : lsA[i]? = some (.val (.int x)) := hg
  obtain ⟨A', e1, hL'⟩ := hL.set (i := i) (by simpa [Nat.blt_eq] using hn) (v := vI (x + d)) trivial rfl
  intro T hT X
  obtain ⟨t, a, b⟩ := k p e R s m args below meth c H locs cells slots A' ad ad0 h0 hC hL' hS T hT X
  refine ⟨t, ?_, b⟩
  have e1' : storeLocals lsA i (.int (x + Int32.ofInt n)) = some A' := by rw [hv]; exact e1
  have hb := hC.cd
  have hexec := hC.ex
  jvm_step X.here [X.here.top, ↓top_set X.here.top, hexec, hb, hd, hg', e1']
  exact a
theorem Ev_iadd {x y : Int32} (hd : decode (mB M) pc = .ok (.iadd, 1)) (k : Ev E M (pc + 1) ls (vI (x + y) :: st) h P) : Ev E M pc ls (vI y :: vI x :: st) h P := by
  intro p e R s m args below meth c H locs cells slots lsA ad ad0 h0 hC hL hS
  exact lv_iadd hC.ex hC.cd hd (k p e R s m args below meth c H locs cells slots lsA ad ad0 h0 hC hL (lvS_i (lvS_2 (lvS_2 hS))))
theorem Ev_isub {x y : Int32} (hd : decode (mB M) pc = .ok (.isub, 1)) (k : Ev E M (pc + 1) ls (vI (x - y) :: st) h P) : Ev E M pc ls (vI y :: vI x :: st) h P := by
  intro p e R s m args below meth c H locs cells slots lsA ad ad0 h0 hC hL hS
  exact lv_isub hC.ex hC.cd hd (k p e R s m args below meth c H locs cells slots lsA ad ad0 h0 hC hL (lvS_i (lvS_2 (lvS_2 hS))))
theorem Ev_imul {x y : Int32} (hd : decode (mB M) pc = .ok (.imul, 1)) (k : Ev E M (pc + 1) ls (vI (x * y) :: st) h P) : Ev E M pc ls (vI y :: vI x :: st) h P := by
  intro p e R s m args below meth c H locs cells slots lsA ad ad0 h0 hC hL hS
  exact lv_imul hC.ex hC.cd hd (k p e R s m args below meth c H locs cells slots lsA ad ad0 h0 hC hL (lvS_i (lvS_2 (lvS_2 hS))))
theorem Ev_iand {x y : Int32} (hd : decode (mB M) pc = .ok (.iand, 1)) (k : Ev E M (pc + 1) ls (vI (x &&& y) :: st) h P) : Ev E M pc ls (vI y :: vI x :: st) h P := by
  intro p e R s m args below meth c H locs cells slots lsA ad ad0 h0 hC hL hS
  exact lv_iand hC.ex hC.cd hd (k p e R s m args below meth c H locs cells slots lsA ad ad0 h0 hC hL (lvS_i (lvS_2 (lvS_2 hS))))
theorem Ev_ior {x y : Int32} (hd : decode (mB M) pc = .ok (.ior, 1)) (k : Ev E M (pc + 1) ls (vI (x ||| y) :: st) h P) : Ev E M pc ls (vI y :: vI x :: st) h P := by
  intro p e R s m args below meth c H locs cells slots lsA ad ad0 h0 hC hL hS
  exact lv_ior hC.ex hC.cd hd (k p e R s m args below meth c H locs cells slots lsA ad ad0 h0 hC hL (lvS_i (lvS_2 (lvS_2 hS))))
theorem Ev_ixor {x y : Int32} (hd : decode (mB M) pc = .ok (.ixor, 1)) (k : Ev E M (pc + 1) ls (vI (x ^^^ y) :: st) h P) : Ev E M pc ls (vI y :: vI x :: st) h P := by
  intro p e R s m args below meth c H locs cells slots lsA ad ad0 h0 hC hL hS
  exact lv_ixor hC.ex hC.cd hd (k p e R s m args below meth c H locs cells slots lsA ad ad0 h0 hC hL (lvS_i (lvS_2 (lvS_2 hS))))
theorem Ev_ishl {x y : Int32} (hd : decode (mB M) pc = .ok (.ishl, 1)) (k : Ev E M (pc + 1) ls (vI (x <<< (y &&& 31)) :: st) h P) : Ev E M pc ls (vI y :: vI x :: st) h P := by
  intro p e R s m args below meth c H locs cells slots lsA ad ad0 h0 hC hL hS
  exact lv_ishl hC.ex hC.cd hd (k p e R s m args below meth c H locs cells slots lsA ad ad0 h0 hC hL (lvS_i (lvS_2 (lvS_2 hS))))
theorem Ev_ishr {x y : Int32} (hd : decode (mB M) pc = .ok (.ishr, 1)) (k : Ev E M (pc + 1) ls (vI (x >>> (y &&& 31)) :: st) h P) : Ev E M pc ls (vI y :: vI x :: st) h P := by
  intro p e R s m args below meth c H locs cells slots lsA ad ad0 h0 hC hL hS
  exact lv_ishr hC.ex hC.cd hd (k p e R s m args below meth c H locs cells slots lsA ad ad0 h0 hC hL (lvS_i (lvS_2 (lvS_2 hS))))
theorem Ev_idiv {x y : Int32} (hd : decode (mB M) pc = .ok (.idiv, 1)) (hne : ¬ y = 0) (k : Ev E M (pc + 1) ls (vI (x / y) :: st) h P) : Ev E M pc ls (vI y :: vI x :: st) h P := by
  intro p e R s m args below meth c H locs cells slots lsA ad ad0 h0 hC hL hS
  exact lv_idiv hC.ex hC.cd hd hne (k p e R s m args below meth c H locs cells slots lsA ad ad0 h0 hC hL (lvS_i (lvS_2 (lvS_2 hS))))
theorem Ev_irem {x y : Int32} (hd : decode (mB M) pc = .ok (.irem, 1)) (hne : ¬ y = 0) (k : Ev E M (pc + 1) ls (vI (x - x / y * y) :: st) h P) : Ev E M pc ls (vI y :: vI x :: st) h P := by
  intro p e R s m args below meth c H locs cells slots lsA ad ad0 h0 hC hL hS
  exact lv_irem hC.ex hC.cd hd hne (k p e R s m args below meth c H locs cells slots lsA ad ad0 h0 hC hL (lvS_i (lvS_2 (lvS_2 hS))))
theorem Ev_i2l {x : Int32} (hd : decode (mB M) pc = .ok (.i2l, 1)) (k : Ev E M (pc + 1) ls (vL x.toInt64 :: st) h P) : Ev E M pc ls (vI x :: st) h P := by
  intro p e R s m args below meth c H locs cells slots lsA ad ad0 h0 hC hL hS
  exact lv_i2l hC.ex hC.cd hd rfl (k p e R s m args below meth c H locs cells slots lsA ad ad0 h0 hC hL (lvS_l (lvS_2 hS)))
theorem Ev_lcmp {x y : Int64} (hd : decode (mB M) pc = .ok (.lcmp, 1)) (k : Ev E M (pc + 1) ls (vI (lg_cmp x y) :: st) h P) : Ev E M pc ls (vL y :: vL x :: st) h P := by
  intro p e R s m args below meth c H locs cells slots lsA ad ad0 h0 hC hL hS
  exact W.lcmp hC.ex hC.cd hd (k p e R s m args below meth c H locs cells slots lsA ad ad0 h0 hC hL (lvS_i (lvS_2 (lvS_2 hS))))
def sg (v : ev_V) : Bool := match v with
  | .inr (.inr _) => false
  | _ => true
theorem cv_sg {ad : Nat → Nat → Nat} {v : ev_V} (q : sg v = true) : (cv ad v).category = 1 := by
  rcases v with (_ | ⟨k, i⟩) | (x | x)
  · rfl
  · show (if k = 4 then Value.ref i else Value.ref (ad k i)).category = 1
    by_cases h4 : k = 4
    · rw [if_pos h4]; rfl
    · rw [if_neg h4]; rfl
  · rfl
  · cases q
theorem Ev_dup {v : ev_V} (hd : decode (mB M) pc = .ok (.dup, 1)) (hv : sg v = true) (k : Ev E M (pc + 1) ls (v :: v :: st) h P) : Ev E M pc ls (v :: st) h P := by
  intro p e R s m args below meth c H locs cells slots lsA ad ad0 h0 hC hL hS
  exact lv_dup hC.ex hC.cd hd (cv_sg hv) (k p e R s m args below meth c H locs cells slots lsA ad ad0 h0 hC hL (lvS_c (lvS_1 hS) hS))
theorem Ev_pop {v : ev_V} (hd : decode (mB M) pc = .ok (.pop, 1)) (hv : sg v = true) (k : Ev E M (pc + 1) ls st h P) : Ev E M pc ls (v :: st) h P := by
  intro p e R s m args below meth c H locs cells slots lsA ad ad0 h0 hC hL hS
  exact lv_pop hC.ex hC.cd hd (cv_sg hv) (k p e R s m args below meth c H locs cells slots lsA ad ad0 h0 hC hL (lvS_2 hS))
theorem Ev_if_eq {x : Int32} {off : Int} {tgt : Nat} (hd : decode (mB M) pc = .ok (.ifCond .eq off, 3)) (ht : (pc : Int) + off = (tgt : Int)) (kt : x = 0 → Ev E M tgt ls st h P) (kf : ¬ x = 0 → Ev E M (pc + 3) ls st h P) : Ev E M pc ls (vI x :: st) h P := by
  intro p e R s m args below meth c H locs cells slots lsA ad ad0 h0 hC hL hS
  exact lv_if_eq hC.ex hC.cd hd ht (fun q => kt q p e R s m args below meth c H locs cells slots lsA ad ad0 h0 hC hL (lvS_2 hS)) (fun q => kf q p e R s m args below meth c H locs cells slots lsA ad ad0 h0 hC hL (lvS_2 hS))
theorem Ev_icmp_eq {x y : Int32} {off : Int} {tgt : Nat} (hd : decode (mB M) pc = .ok (.if_icmp .eq off, 3)) (ht : (pc : Int) + off = (tgt : Int)) (kt : x = y → Ev E M tgt ls st h P) (kf : ¬ x = y → Ev E M (pc + 3) ls st h P) : Ev E M pc ls (vI y :: vI x :: st) h P := by
  intro p e R s m args below meth c H locs cells slots lsA ad ad0 h0 hC hL hS
  exact lv_icmp_eq hC.ex hC.cd hd ht (fun q => kt q p e R s m args below meth c H locs cells slots lsA ad ad0 h0 hC hL (lvS_2 (lvS_2 hS))) (fun q => kf q p e R s m args below meth c H locs cells slots lsA ad ad0 h0 hC hL (lvS_2 (lvS_2 hS)))
theorem Ev_if_ne {x : Int32} {off : Int} {tgt : Nat} (hd : decode (mB M) pc = .ok (.ifCond .ne off, 3)) (ht : (pc : Int) + off = (tgt : Int)) (kt : ¬ x = 0 → Ev E M tgt ls st h P) (kf : x = 0 → Ev E M (pc + 3) ls st h P) : Ev E M pc ls (vI x :: st) h P := by
  intro p e R s m args below meth c H locs cells slots lsA ad ad0 h0 hC hL hS
  exact lv_if_ne hC.ex hC.cd hd ht (fun q => kt q p e R s m args below meth c H locs cells slots lsA ad ad0 h0 hC hL (lvS_2 hS)) (fun q => kf q p e R s m args below meth c H locs cells slots lsA ad ad0 h0 hC hL (lvS_2 hS))
theorem Ev_icmp_ne {x y : Int32} {off : Int} {tgt : Nat} (hd : decode (mB M) pc = .ok (.if_icmp .ne off, 3)) (ht : (pc : Int) + off = (tgt : Int)) (kt : ¬ x = y → Ev E M tgt ls st h P) (kf : x = y → Ev E M (pc + 3) ls st h P) : Ev E M pc ls (vI y :: vI x :: st) h P := by
  intro p e R s m args below meth c H locs cells slots lsA ad ad0 h0 hC hL hS
  exact lv_icmp_ne hC.ex hC.cd hd ht (fun q => kt q p e R s m args below meth c H locs cells slots lsA ad ad0 h0 hC hL (lvS_2 (lvS_2 hS))) (fun q => kf q p e R s m args below meth c H locs cells slots lsA ad ad0 h0 hC hL (lvS_2 (lvS_2 hS)))
theorem Ev_if_lt {x : Int32} {off : Int} {tgt : Nat} (hd : decode (mB M) pc = .ok (.ifCond .lt off, 3)) (ht : (pc : Int) + off = (tgt : Int)) (kt : x < 0 → Ev E M tgt ls st h P) (kf : ¬ x < 0 → Ev E M (pc + 3) ls st h P) : Ev E M pc ls (vI x :: st) h P := by
  intro p e R s m args below meth c H locs cells slots lsA ad ad0 h0 hC hL hS
  exact lv_if_lt hC.ex hC.cd hd ht (fun q => kt q p e R s m args below meth c H locs cells slots lsA ad ad0 h0 hC hL (lvS_2 hS)) (fun q => kf q p e R s m args below meth c H locs cells slots lsA ad ad0 h0 hC hL (lvS_2 hS))
theorem Ev_icmp_lt {x y : Int32} {off : Int} {tgt : Nat} (hd : decode (mB M) pc = .ok (.if_icmp .lt off, 3)) (ht : (pc : Int) + off = (tgt : Int)) (kt : x < y → Ev E M tgt ls st h P) (kf : ¬ x < y → Ev E M (pc + 3) ls st h P) : Ev E M pc ls (vI y :: vI x :: st) h P := by
  intro p e R s m args below meth c H locs cells slots lsA ad ad0 h0 hC hL hS
  exact lv_icmp_lt hC.ex hC.cd hd ht (fun q => kt q p e R s m args below meth c H locs cells slots lsA ad ad0 h0 hC hL (lvS_2 (lvS_2 hS))) (fun q => kf q p e R s m args below meth c H locs cells slots lsA ad ad0 h0 hC hL (lvS_2 (lvS_2 hS)))
theorem Ev_if_ge {x : Int32} {off : Int} {tgt : Nat} (hd : decode (mB M) pc = .ok (.ifCond .ge off, 3)) (ht : (pc : Int) + off = (tgt : Int)) (kt : 0 ≤ x → Ev E M tgt ls st h P) (kf : ¬ 0 ≤ x → Ev E M (pc + 3) ls st h P) : Ev E M pc ls (vI x :: st) h P := by
  intro p e R s m args below meth c H locs cells slots lsA ad ad0 h0 hC hL hS
  exact lv_if_ge hC.ex hC.cd hd ht (fun q => kt q p e R s m args below meth c H locs cells slots lsA ad ad0 h0 hC hL (lvS_2 hS)) (fun q => kf q p e R s m args below meth c H locs cells slots lsA ad ad0 h0 hC hL (lvS_2 hS))
theorem Ev_icmp_ge {x y : Int32} {off : Int} {tgt : Nat} (hd : decode (mB M) pc = .ok (.if_icmp .ge off, 3)) (ht : (pc : Int) + off = (tgt : Int)) (kt : y ≤ x → Ev E M tgt ls st h P) (kf : ¬ y ≤ x → Ev E M (pc + 3) ls st h P) : Ev E M pc ls (vI y :: vI x :: st) h P := by
  intro p e R s m args below meth c H locs cells slots lsA ad ad0 h0 hC hL hS
  exact lv_icmp_ge hC.ex hC.cd hd ht (fun q => kt q p e R s m args below meth c H locs cells slots lsA ad ad0 h0 hC hL (lvS_2 (lvS_2 hS))) (fun q => kf q p e R s m args below meth c H locs cells slots lsA ad ad0 h0 hC hL (lvS_2 (lvS_2 hS)))
theorem Ev_if_gt {x : Int32} {off : Int} {tgt : Nat} (hd : decode (mB M) pc = .ok (.ifCond .gt off, 3)) (ht : (pc : Int) + off = (tgt : Int)) (kt : 0 < x → Ev E M tgt ls st h P) (kf : ¬ 0 < x → Ev E M (pc + 3) ls st h P) : Ev E M pc ls (vI x :: st) h P := by
  intro p e R s m args below meth c H locs cells slots lsA ad ad0 h0 hC hL hS
  exact lv_if_gt hC.ex hC.cd hd ht (fun q => kt q p e R s m args below meth c H locs cells slots lsA ad ad0 h0 hC hL (lvS_2 hS)) (fun q => kf q p e R s m args below meth c H locs cells slots lsA ad ad0 h0 hC hL (lvS_2 hS))
theorem Ev_icmp_gt {x y : Int32} {off : Int} {tgt : Nat} (hd : decode (mB M) pc = .ok (.if_icmp .gt off, 3)) (ht : (pc : Int) + off = (tgt : Int)) (kt : y < x → Ev E M tgt ls st h P) (kf : ¬ y < x → Ev E M (pc + 3) ls st h P) : Ev E M pc ls (vI y :: vI x :: st) h P := by
  intro p e R s m args below meth c H locs cells slots lsA ad ad0 h0 hC hL hS
  exact lv_icmp_gt hC.ex hC.cd hd ht (fun q => kt q p e R s m args below meth c H locs cells slots lsA ad ad0 h0 hC hL (lvS_2 (lvS_2 hS))) (fun q => kf q p e R s m args below meth c H locs cells slots lsA ad ad0 h0 hC hL (lvS_2 (lvS_2 hS)))
theorem Ev_if_le {x : Int32} {off : Int} {tgt : Nat} (hd : decode (mB M) pc = .ok (.ifCond .le off, 3)) (ht : (pc : Int) + off = (tgt : Int)) (kt : x ≤ 0 → Ev E M tgt ls st h P) (kf : ¬ x ≤ 0 → Ev E M (pc + 3) ls st h P) : Ev E M pc ls (vI x :: st) h P := by
  intro p e R s m args below meth c H locs cells slots lsA ad ad0 h0 hC hL hS
  exact lv_if_le hC.ex hC.cd hd ht (fun q => kt q p e R s m args below meth c H locs cells slots lsA ad ad0 h0 hC hL (lvS_2 hS)) (fun q => kf q p e R s m args below meth c H locs cells slots lsA ad ad0 h0 hC hL (lvS_2 hS))
theorem Ev_icmp_le {x y : Int32} {off : Int} {tgt : Nat} (hd : decode (mB M) pc = .ok (.if_icmp .le off, 3)) (ht : (pc : Int) + off = (tgt : Int)) (kt : x ≤ y → Ev E M tgt ls st h P) (kf : ¬ x ≤ y → Ev E M (pc + 3) ls st h P) : Ev E M pc ls (vI y :: vI x :: st) h P := by
  intro p e R s m args below meth c H locs cells slots lsA ad ad0 h0 hC hL hS
  exact lv_icmp_le hC.ex hC.cd hd ht (fun q => kt q p e R s m args below meth c H locs cells slots lsA ad ad0 h0 hC hL (lvS_2 (lvS_2 hS))) (fun q => kf q p e R s m args below meth c H locs cells slots lsA ad ad0 h0 hC hL (lvS_2 (lvS_2 hS)))
theorem Ev_goto {off : Int} {tgt : Nat} (hd : decode (mB M) pc = .ok (.goto off, 3)) (ht : (pc : Int) + off = (tgt : Int)) (k : Ev E M tgt ls st h P) : Ev E M pc ls st h P := by
  intro p e R s m args below meth c H locs cells slots lsA ad ad0 h0 hC hL hS
  exact lv_goto hC.ex hC.cd hd ht (k p e R s m args below meth c H locs cells slots lsA ad ad0 h0 hC hL hS)
theorem Ev_tblOut {dflt lo hi : Int} {offs : Array Int} {len : Nat} {x : Int32} {tgt : Nat} (hd : decode (mB M) pc = .ok (.tableswitch dflt lo hi offs, len)) (hx : x.toInt < lo ∨ hi < x.toInt) (ht : (pc : Int) + dflt = (tgt : Int)) (k : Ev E M tgt ls st h P) : Ev E M pc ls (vI x :: st) h P := by
  intro p e R s m args below meth c H locs cells slots lsA ad ad0 h0 hC hL hS
  exact lv_tableOut hC.ex hC.cd hd hx ht (k p e R s m args below meth c H locs cells slots lsA ad ad0 h0 hC hL (lvS_2 hS))
theorem Ev_tblIn {dflt lo hi : Int} {offs : Array Int} {len : Nat} {x : Int32} {off : Int} {tgt : Nat} (hd : decode (mB M) pc = .ok (.tableswitch dflt lo hi offs, len)) (h1 : ¬ x.toInt < lo) (h2 : ¬ hi < x.toInt) (ho : offs[(x.toInt - lo).toNat]? = some off) (ht : (pc : Int) + off = (tgt : Int)) (k : Ev E M tgt ls st h P) : Ev E M pc ls (vI x :: st) h P := by
  intro p e R s m args below meth c H locs cells slots lsA ad ad0 h0 hC hL hS
  exact lv_tableIn hC.ex hC.cd hd h1 h2 ho ht (k p e R s m args below meth c H locs cells slots lsA ad ad0 h0 hC hL (lvS_2 hS))
theorem Ev_ireturn {x : Int32} (hd : decode (mB M) pc = .ok (.ireturn, 1)) {ty : FieldType} (hr : mR M = some ty) (hn : narrow ty (.int x) = .int x) (k : P (.inl (some (vI x))) h) : Ev E M pc ls [vI x] h P := by
  intro p e R s m args below meth c H locs cells slots lsA ad ad0 h0 hC hL hS
  have hlocks : meth.locks = false := hC.2.1.2.2.2.2.2.2.1
  have hr0 : meth.sig.returnType = mR M := hC.2.1.2.2.1
  refine W.mono (fun t q => ?_) (W.zret (Qc := fun _ _ o t => o = .returned (some (.int x)) ∧ t.heap = H) (free := fun z => eZ E ≤ z) hC.ex hC.cd (hr0.trans hr) hn (fun t ht _ => ⟨rfl, ht⟩) hC.2.2.2.2.2.2.1 hd hlocks)
  · obtain ⟨o, a1, a2, ⟨a3, a4⟩, L, ⟨-, b2, b3⟩, b4⟩ := q
    obtain ⟨-, -, hR, hz, hc1, hc2, -, hx⟩ := hC
    subst a3
    refine ⟨_, a1, a2, .inl (some (vI x)), h, ad, b2, ⟨L, ?_, b4⟩, by rw [a4]; exact hR, hx, ⟨rfl, trivial⟩, k⟩
    have e1 : t.heap.size - s.heap.size = cells := by rw [a4]; exact hc1.symm
    have e2 : 512 * cells = slots := by rw [hc2, hc1]
    rw [e1, e2]
    exact b3
theorem Ev_return (hd : decode (mB M) pc = .ok (.return_, 1)) (hr : mR M = none) (k : P (.inl none) h) : Ev E M pc ls [] h P := by
  intro p e R s m args below meth c H locs cells slots lsA ad ad0 h0 hC hL hS
  have hlocks : meth.locks = false := hC.2.1.2.2.2.2.2.2.1
  have hr0 : meth.sig.returnType = mR M := hC.2.1.2.2.1
  refine W.mono (fun t q => ?_) (W.vret (Qc := fun _ _ o t => o = .returned none ∧ t.heap = H) (free := fun z => eZ E ≤ z) hC.ex hC.cd (hr0.trans hr) (fun t ht _ => ⟨rfl, ht⟩) hC.2.2.2.2.2.2.1 hd hlocks)
  · obtain ⟨o, a1, a2, ⟨a3, a4⟩, L, ⟨-, b2, b3⟩, b4⟩ := q
    obtain ⟨-, -, hR, hz, hc1, hc2, -, hx⟩ := hC
    subst a3
    refine ⟨_, a1, a2, .inl none, h, ad, b2, ⟨L, ?_, b4⟩, by rw [a4]; exact hR, hx, rfl, k⟩
    have e1 : t.heap.size - s.heap.size = cells := by rw [a4]; exact hc1.symm
    have e2 : 512 * cells = slots := by rw [hc2, hc1]
    rw [e1, e2]
    exact b3
theorem Ev_areturn {a b : Nat} (hd : decode (mB M) pc = .ok (.areturn, 1)) {C : String} (hr : mR M = some (.object C)) (k : P (.inl (some (vR a b))) h) : Ev E M pc ls [vR a b] h P := by
  intro p e R s m args below meth c H locs cells slots lsA ad ad0 h0 hC hL hS
  have hlocks : meth.locks = false := hC.2.1.2.2.2.2.2.2.1
  have hr0 : meth.sig.returnType = mR M := hC.2.1.2.2.1
  have hv : cv ad (vR a b) = .null ∨ ∃ z, cv ad (vR a b) = .ref z := by
    refine Or.inr ?_
    show ∃ z, (if a = 4 then Value.ref b else Value.ref (ad a b)) = .ref z
    by_cases h4 : a = 4
    · exact ⟨b, by rw [if_pos h4]⟩
    · exact ⟨ad a b, by rw [if_neg h4]⟩
  refine W.mono (fun t q => ?_) (W.aret (v := cv ad (vR a b)) (rt := .object C) (Qc := fun _ _ o t => o = .returned (some (cv ad (vR a b))) ∧ t.heap = H) (free := fun z => eZ E ≤ z) hC.ex hC.cd (hr0.trans hr) (Or.inl ⟨C, rfl⟩) hv (fun t ht _ => ⟨rfl, ht⟩) hC.2.2.2.2.2.2.1 hd hlocks)
  · obtain ⟨o, a1, a2, ⟨a3, a4⟩, L, ⟨-, b2, b3⟩, b4⟩ := q
    have hS0 := lvS_1 hS
    obtain ⟨-, -, hR, hz, hc1, hc2, -, hx⟩ := hC
    subst a3
    refine ⟨_, a1, a2, .inl (some (vR a b)), h, ad, b2, ⟨L, ?_, b4⟩, by rw [a4]; exact hR, hx, ⟨rfl, hS0⟩, k⟩
    have e1 : t.heap.size - s.heap.size = cells := by rw [a4]; exact hc1.symm
    have e2 : 512 * cells = slots := by rw [hc2, hc1]
    rw [e1, e2]
    exact b3
end EvR
end
section
/-! rows that read and write the heap, and make cells -/
def vNm (ci : Nat) : String := cond (Nat.beq ci 0) "TypedBlood" (cond (Nat.beq ci 1) "TypedBlood$Unit" (cond (Nat.beq ci 2) "TypedBlood$Patient" (cond (Nat.beq ci 3) "TypedBlood$Ranking" "TypedBloodModel")))
def vT (ci : Nat) : u_T := cond (Nat.beq ci 0) T0 (cond (Nat.beq ci 1) T1 (cond (Nat.beq ci 2) T2 (cond (Nat.beq ci 3) T3 T4)))
theorem vC_at {ci : Nat} (q : ci < 5) : vC[ci]? = some (vNm ci, vT ci, nfl ci) := by
  rcases ev_five q with rfl | rfl | rfl | rfl | rfl <;> rfl
theorem vT_ty {ci : Nat} (q : ci < 5) : ∀ f, f < nfl ci → parseFieldDescriptor (vT ci f).2.2.1 = some (fty ci f) := by
  rcases ev_five q with rfl | rfl | rfl | rfl | rfl
  · exact T0_ty
  · exact T1_ty
  · exact T2_ty
  · exact T3_ty
  · exact T4_ty
theorem vT_nm {ci : Nat} (q : ci < 5) : ∀ a, a < nfl ci → ∀ b, b < nfl ci → a ≠ b → (vT ci a).2.1 ≠ (vT ci b).2.1 := by
  rcases ev_five q with rfl | rfl | rfl | rfl | rfl
  · exact T0_nm
  · exact T1_nm
  · exact T2_nm
  · exact T3_nm
  · exact T4_nm
theorem vT_dc {ci : Nat} (q : ci < 5) : ∀ f, f < nfl ci → (vT ci f).1 = vNm ci := by
  rcases ev_five q with rfl | rfl | rfl | rfl | rfl
  · exact T0_dc
  · exact T1_dc
  · exact T2_dc
  · exact T3_dc
  · exact T4_dc
theorem vT_in {ci : Nat} (q : ci < 5) : ∀ w ∈ u_ws (vNm ci) (vT ci) (nfl ci), w ∈ lw_tbl.filter goodWord := by
  have key : ∀ f, f < nfl ci → u_lay (vNm ci) (vT ci) f ∈ lw_tbl.filter goodWord := by
    rcases ev_five q with rfl | rfl | rfl | rfl | rfl
    · exact T0_in
    · exact T1_in
    · exact T2_in
    · exact T3_in
    · exact T4_in
  intro w hw
  obtain ⟨f, hf, rfl⟩ := List.mem_map.mp hw
  exact key f (List.mem_range.mp hf)
theorem nfl_le (ci : Nat) : nfl ci ≤ 26 := by
  unfold nfl
  cases Nat.beq ci 0 <;> cases Nat.beq ci 1 <;> cases Nat.beq ci 2 <;> cases Nat.beq ci 3 <;> decide
def fld (own : String) (idx ci f : Nat) : Prop := ci < 5 ∧ f < nfl ci ∧ wd (.fieldLink own idx (vNm ci) (vT ci f).2.1 (vT ci f).2.2.1)
def nwd (own : String) (idx ci : Nat) : Prop := ci < 5 ∧ wd (.classLink own idx (vNm ci)) ∧ wd (.instantiable (vNm ci) (nfl ci)) ∧ wd (.initialized (vNm ci))
section EvD
variable {E : ev_E} {M : ev_M} {p : Program} {R : Room} {s : State} {m : MethodId} {meth : Method} {c : Code} {H : Heap} {locs : List Loc} {cells slots : Nat} {ad ad0 : Nat → Nat → Nat} {h h0 : ev_H}
theorem ev_obj (hC : ev_C E M p R s m meth c H locs cells slots ad ad0 h h0) {k i : Nat} (hk : Nat.blt k 4 = true) (hl : lvV h (vR k i)) : k < 4 ∧ i < cnt h k ∧ cv ad (vR k i) = .ref (ad k i) ∧ eZ E ≤ ad k i ∧ ad k i < H.size ∧ cr E ad h k i H := by
  have hk4 : k < 4 := by simpa [Nat.blt_eq] using hk
  have hi : i < cnt h k := by
    rcases (show lvs h k i from hl) with z | ⟨z, -⟩ | ⟨-, z⟩
    · omega
    · omega
    · exact z
  obtain ⟨q1, q2, q3⟩ := hC.2.2.1.2.2.2.2.1 k i hk4 hi
  refine ⟨hk4, hi, ?_, q1, q2, q3⟩
  show (if k = 4 then Value.ref i else Value.ref (ad k i)) = _
  rw [if_neg (by omega)]
theorem ev_cls (hC : ev_C E M p R s m meth c H locs cells slots ad ad0 h h0) {ci : Nat} (q : ci < 5) : u_Kn s (vNm ci) (vT ci) (nfl ci) ((eD E).1 ci) ((eD E).2 ci) := hC.K.1 ci _ (vC_at q)
theorem ev_C.mk (hC : ev_C E M p R s m meth c H locs cells slots ad ad0 h h0) {H' : Heap} {locs' : List Loc} {ad' : Nat → Nat → Nat} {h' : ev_H} (hR : Rl E ad' h' H') (hz : s.heap.size ≤ H'.size) (hl : ∀ q ∈ locs', eZ E ≤ q.base) (hx : xt ad h ad' h') :
    ev_C E M p R s m meth c H' locs' (H'.size - s.heap.size) (512 * (H'.size - s.heap.size)) ad' ad0 h' h0 := ⟨hC.1, hC.2.1, hR, hz, rfl, rfl, hl, hC.2.2.2.2.2.2.2.tr hx⟩
theorem ev_locs (hC : ev_C E M p R s m meth c H locs cells slots ad ad0 h h0) {a i : Nat} (ha : eZ E ≤ a) : ∀ q ∈ locs ++ [⟨a, i⟩], eZ E ≤ q.base := by
  intro q hq
  rcases List.mem_append.mp hq with z | z
  · exact hC.2.2.2.2.2.2.1 q z
  · rw [List.mem_singleton.mp z]
    exact ha
theorem ev_room (hC : ev_C E M p R s m meth c H locs cells slots ad ad0 h h0) (hZ : cZ h < ZM) {N : Nat} (hN : N ≤ 512) : cells + 1 ≤ R.cells ∧ slots + N ≤ R.slots := by
  obtain ⟨-, ⟨-, -, -, -, -, -, -, -, -, -, i11, -, -, i14, i15⟩, ⟨r1, -⟩, z1, z2, z3, -⟩ := hC
  constructor
  · omega
  · omega
/-- a slot of an object is written -/
theorem ev_stored (hC : ev_C E M p R s m meth c H locs cells slots ad ad0 h h0) {k i ci f : Nat} (hk : Nat.blt k 4 = true) (hl : lvV h (vR k i)) (hs : shp k i = (0, ci)) {h' : ev_H} {v : ev_V} (hc : h'.2.2.2 = h.2.2.2)
    (hm : ∀ k' i' j, ¬ (k' = k ∧ i' = i) → gI h' k' i' j = gI h k' i' j ∧ gR h' k' i' j = gR h k' i' j ∧ gL h' k' i' j = gL h k' i' j) (hv : fv h' ci k i f = v) (ho : ∀ j, j ≠ f → fv h' ci k i j = fv h ci k i j) (hlv : lvV h v)
    {H' : Heap} (hz : H'.size = H.size) (hoq : ∀ q, q ≠ ad k i → H'[q]? = H[q]?) (hob : t_OB (ad k i) ((eD E).1 ci) (nfl ci) ((eD E).2 ci) H' (updV (fun f => cv ad (fv h ci k i f)) f (cv ad v))) : Rl E ad h' H' := by
  obtain ⟨k4, hi, -, q1, q2, q3⟩ := ev_obj hC hk hl
  have hx : xt ad h ad h' := xt_eq hc
  refine hC.2.2.1.st k4 hi hz hoq hc hm ⟨fun _ => ?_, fun z => ?_, fun z => ?_, fun z => ?_⟩
  · rw [hs]
    have c0 := (q3.1 (by rw [hs])).2
    rw [hs] at c0
    refine ⟨hob.to fun j _ => ?_, fun j hj => ?_⟩
    · by_cases e : j = f
      · subst e
        show (if j = j then _ else _) = _
        rw [if_pos rfl, hv]
      · show (if j = f then _ else _) = _
        rw [if_neg e, ho j e]
    · by_cases e : j = f
      · subst e
        rw [hv]
        exact (hx.V hlv).1
      · rw [ho j e]
        exact (hx.V (c0 j hj)).1
  · rw [hs] at z; cases z
  · rw [hs] at z; cases z
  · rw [hs] at z; exact absurd z (by simp)
end EvD
section EvR
variable {E : ev_E} {M : ev_M} {pc : Nat} {ls : List (Nat × ev_V)} {st : List ev_V} {h : ev_H} {P : Option ev_V ⊕ Nat → ev_H → Prop}
theorem Ev_get {k i ci f idx : Nat} {v : ev_V} (hd : decode (mB M) pc = .ok (.getfield idx, 3)) (hk : Nat.blt k 4 = true) (hs : shp k i = (0, ci)) (hf : fld (mY M).cls idx ci f) (hv : fv h ci k i f = v) (kk : Ev E M (pc + 3) ls (v :: st) h P) : Ev E M pc ls (vR k i :: st) h P := by
  intro p e R s m args below meth c H locs cells slots lsA ad ad0 h0 hC hL hS
  obtain ⟨k4, hi, hz, q1, q2, q3⟩ := ev_obj hC hk (lvS_1 hS)
  have c0 := q3.1 (by rw [hs])
  rw [hs] at c0
  obtain ⟨⟨cell, o1, o2, o3, o4⟩, o5⟩ := c0
  obtain ⟨hS', hfc, kC, hkC, hkind⟩ := ev_cls hC hf.1
  obtain ⟨cf, kf, fi, fd, hi', hsl⟩ := hS' f hf.2.1
  have hst := (u_facts hfc hkC (u_lays (hC.hts args) (vT_in hf.1) hf.2.1) hi').1
  rw [vT_dc hf.1 f hf.2.1] at hi'
  rw [List.map_cons, hz]
  have hlv : lvV h v := hv ▸ o5 f hf.2.1
  refine W.getf hC.ex hC.cd hC.own (hC.w hf.2.2 args) hi' hst o1 (by rw [o3]; exact fun z => by cases z) (v := cv ad v) ?_ rfl rfl hd (kk p e R s m args below meth c H locs cells slots lsA ad ad0 h0 hC hL (lvS_c hlv (lvS_2 hS)))
  rw [hsl, o4 f hf.2.1, ← hv]
theorem Ev_getI {k i ci f idx : Nat} (hd : decode (mB M) pc = .ok (.getfield idx, 3)) (hk : Nat.blt k 4 = true) (hs : shp k i = (0, ci)) (hi : isI ci f = true) (hf : fld (mY M).cls idx ci f) (kk : Ev E M (pc + 3) ls (vI (gI h k i f) :: st) h P) : Ev E M pc ls (vR k i :: st) h P :=
  Ev_get hd hk hs hf (by unfold fv; rw [hi]; rfl) kk
theorem Ev_getR {k i ci f idx : Nat} {v : ev_V} (hd : decode (mB M) pc = .ok (.getfield idx, 3)) (hk : Nat.blt k 4 = true) (hs : shp k i = (0, ci)) (hi : isI ci f = false) (hf : fld (mY M).cls idx ci f) (hv : gR h k i f = v) (kk : Ev E M (pc + 3) ls (v :: st) h P) : Ev E M pc ls (vR k i :: st) h P :=
  Ev_get hd hk hs hf (by unfold fv; rw [hi]; exact hv) kk
theorem fv_sI {h : ev_H} {ci k i f : Nat} {x : Int32} (hi : isI ci f = true) : fv (sI h k i f x) ci k i f = vI x := by
  unfold fv
  rw [hi]
  show vI (if k = k ∧ i = i ∧ f = f then x else _) = _
  rw [if_pos ⟨rfl, rfl, rfl⟩]
theorem fv_sIo {h : ev_H} {ci k i f j : Nat} {x : Int32} (hj : j ≠ f) : fv (sI h k i f x) ci k i j = fv h ci k i j := by
  unfold fv
  have e : gI (sI h k i f x) k i j = gI h k i j := by
    show (if k = k ∧ i = i ∧ j = f then x else _) = _
    rw [if_neg fun z => hj z.2.2]; rfl
  rw [e]; rfl
theorem fv_sR {h : ev_H} {ci k i f : Nat} {v : ev_V} (hi : isI ci f = false) : fv (sR h k i f v) ci k i f = v := by
  unfold fv
  rw [hi]
  show (if k = k ∧ i = i ∧ f = f then v else _) = _
  rw [if_pos ⟨rfl, rfl, rfl⟩]
theorem fv_sRo {h : ev_H} {ci k i f j : Nat} {v : ev_V} (hj : j ≠ f) : fv (sR h k i f v) ci k i j = fv h ci k i j := by
  unfold fv
  have e : gR (sR h k i f v) k i j = gR h k i j := by
    show (if k = k ∧ i = i ∧ j = f then v else _) = _
    rw [if_neg fun z => hj z.2.2]; rfl
  rw [e]; rfl
theorem sI_m {h : ev_H} {k i f : Nat} {x : Int32} : ∀ k' i' j, ¬ (k' = k ∧ i' = i) → gI (sI h k i f x) k' i' j = gI h k' i' j ∧ gR (sI h k i f x) k' i' j = gR h k' i' j ∧ gL (sI h k i f x) k' i' j = gL h k' i' j := by
  intro k' i' j q
  refine ⟨?_, rfl, rfl⟩
  show (if k' = k ∧ i' = i ∧ j = f then x else _) = _
  rw [if_neg fun z => q ⟨z.1, z.2.1⟩]; rfl
theorem sR_m {h : ev_H} {k i f : Nat} {v : ev_V} : ∀ k' i' j, ¬ (k' = k ∧ i' = i) → gI (sR h k i f v) k' i' j = gI h k' i' j ∧ gR (sR h k i f v) k' i' j = gR h k' i' j ∧ gL (sR h k i f v) k' i' j = gL h k' i' j := by
  intro k' i' j q
  refine ⟨rfl, ?_, rfl⟩
  show (if k' = k ∧ i' = i ∧ j = f then v else _) = _
  rw [if_neg fun z => q ⟨z.1, z.2.1⟩]; rfl
theorem sL_m {h : ev_H} {k i f : Nat} {v : Int64} : ∀ k' i' j, ¬ (k' = k ∧ i' = i) → gI (sL h k i f v) k' i' j = gI h k' i' j ∧ gR (sL h k i f v) k' i' j = gR h k' i' j ∧ gL (sL h k i f v) k' i' j = gL h k' i' j := by
  intro k' i' j q
  refine ⟨rfl, rfl, ?_⟩
  show (if k' = k ∧ i' = i ∧ j = f then v else _) = _
  rw [if_neg fun z => q ⟨z.1, z.2.1⟩]; rfl
/-- a field that is not final takes an int -/
theorem Ev_putI {k i ci f idx : Nat} {x : Int32} (hd : decode (mB M) pc = .ok (.putfield idx, 3)) (hk : Nat.blt k 4 = true) (hs : shp k i = (0, ci)) (hi : isI ci f = true) (hf : fld (mY M).cls idx ci f) (hfin : (vT ci f).2.2.2 = false) (kk : Ev E M (pc + 3) ls st (sI h k i f x) P) : Ev E M pc ls (vI x :: vR k i :: st) h P := by
  intro p e R s m args below meth c H locs cells slots lsA ad ad0 h0 hC hL hS
  have hlv := lvS_1 (lvS_2 hS)
  obtain ⟨k4, hi4, hz, q1, q2, q3⟩ := ev_obj hC hk hlv
  have c0 := q3.1 (by rw [hs])
  rw [hs] at c0
  obtain ⟨⟨cell, o1, o2, o3, o4⟩, o5⟩ := c0
  obtain ⟨hS', hfc, kC, hkC, hkind⟩ := ev_cls hC hf.1
  have hap := va_apart (D := eD E) (own := (mY M).cls) (hC.hts args) (vT_in hf.1) (fty ci) (vT_ty hf.1) (vT_nm hf.1) hC.K (vC_at hf.1)
  obtain ⟨cf, kf, fi, fd, hi', hsl⟩ := hS' f hf.2.1
  have hst := (u_facts hfc hkC (u_lays (hC.hts args) (vT_in hf.1) hf.2.1) hi').1
  have hlay := hC.hts args _ (vT_in hf.1 _ (u_in_lay hf.2.1))
  unfold u_lay at hlay
  rw [if_neg (by rw [hfin]; decide)] at hlay
  have hty : fty ci f = .int := by unfold fty; rw [hi]; rfl
  have h6 := u_store (v := .int x) hfc hkC hkind hlay hi' (by rw [vT_ty hf.1 f hf.2.1, hty]) rfl rfl
  rw [vT_dc hf.1 f hf.2.1] at hi'
  rw [List.map_cons, List.map_cons, hz]
  refine W.putK hC.ex hC.cd (f := fd) ⟨hC.own, hC.w hf.2.2 args, ⟨_, _, _, hi'⟩, hst⟩ (by rw [o2]; exact h6) o1 o3 (by rw [hsl]; exact k2_hasslot (o4 f hf.2.1)) rfl rfl hd fun H' e1 e2 e3 => ?_
  rw [hsl] at e1
  have hR := ev_stored hC hk hlv hs (h' := sI h k i f x) rfl sI_m (fv_sI hi) (fun j hj => fv_sIo hj) trivial e2 e3 ⟨_, e1, o2, o3, t_set o4 hap hf.2.1 (.int x)⟩
  have hx : xt ad h ad (sI h k i f x) := xt_eq rfl
  refine W.cs (by rw [e2]; exact hC.2.2.2.2.1) (by rw [e2]; exact hC.2.2.2.2.2.1) (kk p e R s m args below meth c H' _ _ _ lsA ad ad0 h0 (hC.mk hR (by rw [e2]; exact hC.2.2.2.1) (ev_locs hC q1) hx) (hL.mv hx) (hx.S (lvS_2 (lvS_2 hS))).1)
/-- a final field takes its value in a constructor -/
theorem ev_putF {k i ci f idx : Nat} {v : ev_V} {h' : ev_H} {ty : FieldType} (hd : decode (mB M) pc = .ok (.putfield idx, 3)) (hk : Nat.blt k 4 = true) (hs : shp k i = (0, ci)) (hf : fld (mY M).cls idx ci f) (hfin : (vT ci f).2.2.2 = true) (hin : (mY M).name = "<init>") (hcl : (mY M).cls = vNm ci)
    (hty : fty ci f = ty) (hnar : ∀ ad, narrow ty (cv ad v) = cv ad v) (hfit : ∀ ad, fits ty (cv ad v) = true) (hc : h'.2.2.2 = h.2.2.2)
    (hm : ∀ k' i' j, ¬ (k' = k ∧ i' = i) → gI h' k' i' j = gI h k' i' j ∧ gR h' k' i' j = gR h k' i' j ∧ gL h' k' i' j = gL h k' i' j) (hv : fv h' ci k i f = v) (ho : ∀ j, j ≠ f → fv h' ci k i j = fv h ci k i j)
    (kk : Ev E M (pc + 3) ls st h' P) : Ev E M pc ls (v :: vR k i :: st) h P := by
  intro p e R s m args below meth c H locs cells slots lsA ad ad0 h0 hC hL hS
  have hlv := lvS_1 (lvS_2 hS)
  obtain ⟨k4, hi4, hz, q1, q2, q3⟩ := ev_obj hC hk hlv
  have c0 := q3.1 (by rw [hs])
  rw [hs] at c0
  obtain ⟨⟨cell, o1, o2, o3, o4⟩, o5⟩ := c0
  obtain ⟨hS', hfc, kC, hkC, hkind⟩ := ev_cls hC hf.1
  have hap := va_apart (D := eD E) (own := (mY M).cls) (hC.hts args) (vT_in hf.1) (fty ci) (vT_ty hf.1) (vT_nm hf.1) hC.K (vC_at hf.1)
  obtain ⟨cf, kf, fi, fd, hi', hsl⟩ := hS' f hf.2.1
  have hst := (u_facts hfc hkC (u_lays (hC.hts args) (vT_in hf.1) hf.2.1) hi').1
  have hlay := hC.hts args _ (vT_in hf.1 _ (u_in_lay hf.2.1))
  unfold u_lay at hlay
  rw [if_pos hfin] at hlay
  have hcf : m.cls = cf := by
    obtain ⟨_, _, c', _, _, _, -, -, hf', -, -, -, hown2, -⟩ := Cond.laysFinal_spec hlay
    have e1 : c' = cf := by have := hi'.symm.trans hf'; simp at this; exact this.1.symm
    rw [vT_dc hf.1 f hf.2.1, ← hcl] at hown2
    rw [← e1]; exact Option.some.inj (hC.own.symm.trans hown2)
  have h6 := u_fits (v := cv ad v) hfc hkC hkind (Or.inr hlay) hi' (by rw [vT_ty hf.1 f hf.2.1, hty]) (hnar ad) (hfit ad)
  rw [vT_dc hf.1 f hf.2.1] at hi'
  rw [List.map_cons, List.map_cons, hz]
  refine W.putFinK hC.ex hC.cd hC.own (hC.w hf.2.2 args) hi' hst hcf (hC.2.1.2.2.2.2.2.1.trans hin) (by rw [o2]; exact h6) o1 o3 (by rw [hsl]; exact k2_hasslot (o4 f hf.2.1)) rfl rfl hd fun H' e1 e2 e3 => ?_
  rw [hsl] at e1
  have hR := ev_stored hC hk hlv hs (h' := h') hc hm hv ho (lvS_1 hS) e2 e3 ⟨_, e1, o2, o3, t_set o4 hap hf.2.1 (cv ad v)⟩
  have hx : xt ad h ad h' := xt_eq hc
  refine W.cs (by rw [e2]; exact hC.2.2.2.2.1) (by rw [e2]; exact hC.2.2.2.2.2.1) (kk p e R s m args below meth c H' _ _ _ lsA ad ad0 h0 (hC.mk hR (by rw [e2]; exact hC.2.2.2.1) (ev_locs hC q1) hx) (hL.mv hx) (hx.S (lvS_2 (lvS_2 hS))).1)
theorem Ev_putIF {k i ci f idx : Nat} {x : Int32} (hd : decode (mB M) pc = .ok (.putfield idx, 3)) (hk : Nat.blt k 4 = true) (hs : shp k i = (0, ci)) (hi : isI ci f = true) (hf : fld (mY M).cls idx ci f) (hfin : (vT ci f).2.2.2 = true) (hin : (mY M).name = "<init>") (hcl : (mY M).cls = vNm ci) (kk : Ev E M (pc + 3) ls st (sI h k i f x) P) : Ev E M pc ls (vI x :: vR k i :: st) h P :=
  ev_putF (ty := .int) (h' := sI h k i f x) hd hk hs hf hfin hin hcl (by unfold fty; rw [hi]; rfl) (fun _ => rfl) (fun _ => rfl) rfl sI_m (fv_sI hi) (fun j hj => fv_sIo hj) kk
theorem cv_ref {ad : Nat → Nat → Nat} (a b : Nat) : ∃ z, cv ad (vR a b) = .ref z := by
  show ∃ z, (if a = 4 then Value.ref b else Value.ref (ad a b)) = .ref z
  by_cases h4 : a = 4
  · exact ⟨b, by rw [if_pos h4]⟩
  · exact ⟨ad a b, by rw [if_neg h4]⟩
theorem Ev_putRF {k i ci f idx a b : Nat} (hd : decode (mB M) pc = .ok (.putfield idx, 3)) (hk : Nat.blt k 4 = true) (hs : shp k i = (0, ci)) (hi : isI ci f = false) (hf : fld (mY M).cls idx ci f) (hfin : (vT ci f).2.2.2 = true) (hin : (mY M).name = "<init>") (hcl : (mY M).cls = vNm ci) (hrt : (fty ci f).isReference = true) (kk : Ev E M (pc + 3) ls st (sR h k i f (vR a b)) P) : Ev E M pc ls (vR a b :: vR k i :: st) h P := by
  refine ev_putF (ty := fty ci f) (h' := sR h k i f (vR a b)) hd hk hs hf hfin hin hcl rfl (fun ad => ?_) (fun ad => ?_) rfl sR_m (fv_sR hi) (fun j hj => fv_sRo hj) kk
  · obtain ⟨z, hz⟩ := cv_ref (ad := ad) a b
    rw [hz]
    cases hq : fty ci f <;> first | rfl | (rw [hq] at hrt; cases hrt)
  · obtain ⟨z, hz⟩ := cv_ref (ad := ad) a b
    rw [hz]
    cases hq : fty ci f <;> first | rfl | (rw [hq] at hrt; cases hrt)
/-- an int array's place -/
theorem Ev_iald {k i n : Nat} {x : Int32} (hd : decode (mB M) pc = .ok (.iaload, 1)) (hk : Nat.blt k 4 = true) (hs : shp k i = (1, n)) (h1 : ¬ x < 0) (h2 : x.toNatClampNeg < n) (kk : Ev E M (pc + 1) ls (vI (gI h k i x.toNatClampNeg) :: st) h P) : Ev E M pc ls (vI x :: vR k i :: st) h P := by
  intro p e R s m args below meth c H locs cells slots lsA ad ad0 h0 hC hL hS
  obtain ⟨k4, hi4, hz, q1, q2, q3⟩ := ev_obj hC hk (lvS_1 (lvS_2 hS))
  have c0 := q3.2.1 (by rw [hs])
  rw [hs] at c0
  rw [List.map_cons, List.map_cons, hz]
  refine W.iald hC.ex hC.cd (v := .int (gI h k i x.toNatClampNeg)) c0 ((hC.K.2 0 _ rfl).1 n _) (fun z => by cases z) ?_ (arrV_read _ _ h2) rfl rfl hd (kk p e R s m args below meth c H locs cells slots lsA ad ad0 h0 hC hL (lvS_i (lvS_2 (lvS_2 hS))))
  rw [arrV_size]
  rintro (z | z)
  · exact h1 z
  · exact absurd h2 (Nat.not_lt.mpr z)
theorem Ev_iast {k i n : Nat} {x v : Int32} (hd : decode (mB M) pc = .ok (.iastore, 1)) (hk : Nat.blt k 4 = true) (hs : shp k i = (1, n)) (h1 : ¬ x < 0) (h2 : x.toNatClampNeg < n) (kk : Ev E M (pc + 1) ls st (sI h k i x.toNatClampNeg v) P) : Ev E M pc ls (vI v :: vI x :: vR k i :: st) h P := by
  intro p e R s m args below meth c H locs cells slots lsA ad ad0 h0 hC hL hS
  have hlv := lvS_1 (lvS_2 (lvS_2 hS))
  obtain ⟨k4, hi4, hz, q1, q2, q3⟩ := ev_obj hC hk hlv
  have c0 := q3.2.1 (by rw [hs])
  rw [hs] at c0
  rw [List.map_cons, List.map_cons, List.map_cons, hz]
  refine W.iast hC.ex hC.cd c0 ((hC.K.2 0 _ rfl).1 n _) (fun z => by cases z) ?_ rfl rfl hd fun H' e1 e2 e3 => ?_
  · rw [arrV_size]
    rintro (z | z)
    · exact h1 z
    · exact absurd h2 (Nat.not_lt.mpr z)
  · have hx : xt ad h ad (sI h k i x.toNatClampNeg v) := xt_eq rfl
    have hR : Rl E ad (sI h k i x.toNatClampNeg v) H' := by
      refine hC.2.2.1.st k4 hi4 e2 e3 rfl sI_m ⟨fun z => ?_, fun _ => ?_, fun z => ?_, fun z => ?_⟩
      · rw [hs] at z; cases z
      · rw [hs, e1, arrV_store]
        refine congrArg some (arrV_congr fun j _ => ?_)
        show (if j = x.toNatClampNeg then Value.int v else _) = Value.int (if k = k ∧ i = i ∧ j = x.toNatClampNeg then v else _)
        by_cases ej : j = x.toNatClampNeg
        · rw [if_pos ej, if_pos ⟨rfl, rfl, ej⟩]
        · rw [if_neg ej, if_neg fun z => ej z.2.2]; rfl
      · rw [hs] at z; cases z
      · rw [hs] at z; exact absurd z (by simp)
    refine W.cs (by rw [e2]; exact hC.2.2.2.2.1) (by rw [e2]; exact hC.2.2.2.2.2.1) (kk p e R s m args below meth c H' _ _ _ lsA ad ad0 h0 (hC.mk hR (by rw [e2]; exact hC.2.2.2.1) (ev_locs hC q1) hx) (hL.mv hx) (hx.S (lvS_2 (lvS_2 (lvS_2 hS)))).1)
theorem Ev_lald {k i n : Nat} {x : Int32} (hd : decode (mB M) pc = .ok (.laload, 1)) (hk : Nat.blt k 4 = true) (hs : shp k i = (2, n)) (h1 : ¬ x < 0) (h2 : x.toNatClampNeg < n) (kk : Ev E M (pc + 1) ls (vL (gL h k i x.toNatClampNeg) :: st) h P) : Ev E M pc ls (vI x :: vR k i :: st) h P := by
  intro p e R s m args below meth c H locs cells slots lsA ad ad0 h0 hC hL hS
  obtain ⟨k4, hi4, hz, q1, q2, q3⟩ := ev_obj hC hk (lvS_1 (lvS_2 hS))
  have c0 := q3.2.2.1 (by rw [hs])
  rw [hs] at c0
  rw [List.map_cons, List.map_cons, hz]
  refine W.lald hC.ex hC.cd (v := .long (gL h k i x.toNatClampNeg)) c0 ((hC.K.2 1 _ rfl).1 n _) (fun z => by cases z) ?_ (arrV_read _ _ h2) rfl rfl hd (kk p e R s m args below meth c H locs cells slots lsA ad ad0 h0 hC hL (lvS_l (lvS_2 (lvS_2 hS))))
  rw [arrV_size]
  rintro (z | z)
  · exact h1 z
  · exact absurd h2 (Nat.not_lt.mpr z)
theorem Ev_last {k i n : Nat} {x : Int32} {v : Int64} (hd : decode (mB M) pc = .ok (.lastore, 1)) (hk : Nat.blt k 4 = true) (hs : shp k i = (2, n)) (h1 : ¬ x < 0) (h2 : x.toNatClampNeg < n) (kk : Ev E M (pc + 1) ls st (sL h k i x.toNatClampNeg v) P) : Ev E M pc ls (vL v :: vI x :: vR k i :: st) h P := by
  intro p e R s m args below meth c H locs cells slots lsA ad ad0 h0 hC hL hS
  have hlv := lvS_1 (lvS_2 (lvS_2 hS))
  obtain ⟨k4, hi4, hz, q1, q2, q3⟩ := ev_obj hC hk hlv
  have c0 := q3.2.2.1 (by rw [hs])
  rw [hs] at c0
  rw [List.map_cons, List.map_cons, List.map_cons, hz]
  refine W.last hC.ex hC.cd c0 ((hC.K.2 1 _ rfl).1 n _) (fun z => by cases z) ?_ rfl rfl hd fun H' e1 e2 e3 => ?_
  · rw [arrV_size]
    rintro (z | z)
    · exact h1 z
    · exact absurd h2 (Nat.not_lt.mpr z)
  · have hx : xt ad h ad (sL h k i x.toNatClampNeg v) := xt_eq rfl
    have hR : Rl E ad (sL h k i x.toNatClampNeg v) H' := by
      refine hC.2.2.1.st k4 hi4 e2 e3 rfl sL_m ⟨fun z => ?_, fun z => ?_, fun _ => ?_, fun z => ?_⟩
      · rw [hs] at z; cases z
      · rw [hs] at z; cases z
      · rw [hs, e1, arrV_store]
        refine congrArg some (arrV_congr fun j _ => ?_)
        show (if j = x.toNatClampNeg then Value.long v else _) = Value.long (if k = k ∧ i = i ∧ j = x.toNatClampNeg then v else _)
        by_cases ej : j = x.toNatClampNeg
        · rw [if_pos ej, if_pos ⟨rfl, rfl, ej⟩]
        · rw [if_neg ej, if_neg fun z => ej z.2.2]; rfl
      · rw [hs] at z; exact absurd z (by simp)
    refine W.cs (by rw [e2]; exact hC.2.2.2.2.1) (by rw [e2]; exact hC.2.2.2.2.2.1) (kk p e R s m args below meth c H' _ _ _ lsA ad ad0 h0 (hC.mk hR (by rw [e2]; exact hC.2.2.2.1) (ev_locs hC q1) hx) (hL.mv hx) (hx.S (lvS_2 (lvS_2 (lvS_2 hS)))).1)
/-- an array of Units (t = 3) or Patients (t = 4) -/
def aC (t : Nat) : String := cond (Nat.beq t 3) "TypedBlood$Unit" "TypedBlood$Patient"
theorem Ev_aald {k i t n : Nat} {x : Int32} {v : ev_V} (hd : decode (mB M) pc = .ok (.aaload, 1)) (hk : Nat.blt k 4 = true) (hs : shp k i = (t, n)) (ht : t = 3 ∨ t = 4) (h1 : ¬ x < 0) (h2 : x.toNatClampNeg < n) (hv : gR h k i x.toNatClampNeg = v) (kk : Ev E M (pc + 1) ls (v :: st) h P) : Ev E M pc ls (vI x :: vR k i :: st) h P := by
  intro p e R s m args below meth c H locs cells slots lsA ad ad0 h0 hC hL hS
  obtain ⟨k4, hi4, hz, q1, q2, q3⟩ := ev_obj hC hk (lvS_1 (lvS_2 hS))
  have c0 := q3.2.2.2 (by rw [hs]; rcases ht with rfl | rfl <;> simp)
  rw [hs] at c0
  obtain ⟨c0, c1⟩ := c0
  have hA : s.isArrayOf (arrV (eC E (t - 1)) n (fun j => cv ad (gR h k i j))) (.object (aC t)) := by
    rcases ht with rfl | rfl
    · exact (hC.K.2 2 _ rfl).1 n _
    · exact (hC.K.2 3 _ rfl).1 n _
  rw [List.map_cons, List.map_cons, hz]
  have hlv : lvV h v := hv ▸ c1 _ h2
  refine W.aald hC.ex hC.cd (v := cv ad v) c0 hA rfl (fun z => by cases z) ?_ (by rw [← hv]; exact arrV_read _ _ h2) rfl rfl hd (kk p e R s m args below meth c H locs cells slots lsA ad ad0 h0 hC hL (lvS_c hlv (lvS_2 (lvS_2 hS))))
  rw [arrV_size]
  rintro (z | z)
  · exact h1 z
  · exact absurd h2 (Nat.not_lt.mpr z)
theorem Ev_aast {k i t n a b : Nat} {x : Int32} (hd : decode (mB M) pc = .ok (.aastore, 1)) (hk : Nat.blt k 4 = true) (hs : shp k i = (t, n)) (ht : t = 3 ∨ t = 4) (ha : Nat.blt a 4 = true) (hsa : shp a b = (0, t - 2)) (h1 : ¬ x < 0) (h2 : x.toNatClampNeg < n) (kk : Ev E M (pc + 1) ls st (sR h k i x.toNatClampNeg (vR a b)) P) : Ev E M pc ls (vR a b :: vI x :: vR k i :: st) h P := by
  intro p e R s m args below meth c H locs cells slots lsA ad ad0 h0 hC hL hS
  have hlv := lvS_1 (lvS_2 (lvS_2 hS))
  have hlb := lvS_1 hS
  obtain ⟨k4, hi4, hz, q1, q2, q3⟩ := ev_obj hC hk hlv
  obtain ⟨-, -, hzb, -, -, p3⟩ := ev_obj hC ha hlb
  have c0 := q3.2.2.2 (by rw [hs]; rcases ht with rfl | rfl <;> simp)
  rw [hs] at c0
  obtain ⟨c0, c1⟩ := c0
  have d0 := p3.1 (by rw [hsa])
  rw [hsa] at d0
  obtain ⟨⟨cellV, g1, g2, g3, -⟩, -⟩ := d0
  have hcls : ClassAt s (aC t) ((eD E).1 (t - 2)) := by
    rcases ht with rfl | rfl
    · exact (ev_cls hC (ci := 1) (by decide)).2
    · exact (ev_cls hC (ci := 2) (by decide)).2
  have hRA : va_RA s (eC E (t - 1)) (.object (aC t)) := by
    rcases ht with rfl | rfl
    · exact (hC.K.2 2 _ rfl).2
    · exact (hC.K.2 3 _ rfl).2
  obtain ⟨kA, comp, k1, k2, k3, -⟩ := hRA
  have hcomp : comp = (eD E).1 (t - 2) := Option.some.inj (k3.symm.trans hcls.1)
  subst hcomp
  obtain ⟨kC, hkC, -⟩ := hcls.2
  rw [List.map_cons, List.map_cons, List.map_cons, hz, hzb]
  refine W.aast hC.ex hC.cd c0 (fun q z => by cases z) (fun z => by cases z) k1 k2 rfl hkC ⟨h1, by rw [arrV_size]; exact h2⟩ g1 (fun q z => by rw [g3] at z; cases z) (by rw [g2]; exact hkC) (by rw [g2]; exact va_assign hcls) rfl rfl hd fun H' e1 e2 e3 => ?_
  have hx : xt ad h ad (sR h k i x.toNatClampNeg (vR a b)) := xt_eq rfl
  have hR : Rl E ad (sR h k i x.toNatClampNeg (vR a b)) H' := by
    refine hC.2.2.1.st k4 hi4 e2 e3 rfl sR_m ⟨fun z => ?_, fun z => ?_, fun z => ?_, fun _ => ⟨?_, fun j hj => ?_⟩⟩
    · rw [hs] at z; rcases ht with rfl | rfl <;> cases z
    · rw [hs] at z; rcases ht with rfl | rfl <;> cases z
    · rw [hs] at z; rcases ht with rfl | rfl <;> cases z
    · rw [hs, e1, arrV_store]
      refine congrArg some (arrV_congr fun j _ => ?_)
      show (if j = x.toNatClampNeg then Value.ref (ad a b) else _) = cv ad (if k = k ∧ i = i ∧ j = x.toNatClampNeg then vR a b else _)
      by_cases ej : j = x.toNatClampNeg
      · rw [if_pos ej, if_pos ⟨rfl, rfl, ej⟩, hzb]
      · rw [if_neg ej, if_neg fun z => ej z.2.2]; rfl
    · rw [hs] at hj
      show lvV _ (if k = k ∧ i = i ∧ j = x.toNatClampNeg then vR a b else _)
      by_cases ej : j = x.toNatClampNeg
      · rw [if_pos ⟨rfl, rfl, ej⟩]
        exact (hx.V hlb).1
      · rw [if_neg fun z => ej z.2.2]
        exact (hx.V (c1 j hj)).1
  refine W.cs (by rw [e2]; exact hC.2.2.2.2.1) (by rw [e2]; exact hC.2.2.2.2.2.1) (kk p e R s m args below meth c H' _ _ _ lsA ad ad0 h0 (hC.mk hR (by rw [e2]; exact hC.2.2.2.1) (ev_locs hC q1) hx) (hL.mv hx) (hx.S (lvS_2 (lvS_2 (lvS_2 hS)))).1)
theorem Ev_alen {k i n : Nat} (hd : decode (mB M) pc = .ok (.arraylength, 1)) (hk : Nat.blt k 4 = true) (hs : shp k i = (1, n)) (kk : Ev E M (pc + 1) ls (vI (Int32.ofNat n) :: st) h P) : Ev E M pc ls (vR k i :: st) h P := by
  intro p e R s m args below meth c H locs cells slots lsA ad ad0 h0 hC hL hS
  obtain ⟨k4, hi4, hz, q1, q2, q3⟩ := ev_obj hC hk (lvS_1 hS)
  have c0 := q3.2.1 (by rw [hs])
  rw [hs] at c0
  rw [List.map_cons, hz]
  exact W.alen (n := Int32.ofNat n) hC.ex hC.cd c0 ((hC.K.2 0 _ rfl).1 n _) (by rw [arrV_size]) rfl rfl hd (kk p e R s m args below meth c H locs cells slots lsA ad ad0 h0 hC hL (lvS_i (lvS_2 hS)))
/-- the old arrays: read alone -/
theorem ev_old {p : Program} {R : Room} {s : State} {m : MethodId} {meth : Method} {c : Code} {H : Heap} {locs : List Loc} {cells slots : Nat} {ad ad0 : Nat → Nat → Nat} {h0 : ev_H} (hC : ev_C E M p R s m meth c H locs cells slots ad ad0 h h0) {i : Nat} (hi : i < 3) : cv ad (vR 5 i) = .ref (eO E i) ∧ va_T .int (eO E i) (eN E i) (fun j => .int (eX E i j)) (fun q => eZ E ≤ q) s H := by
  obtain ⟨h1, h2⟩ := hC.1.2.2.2.1 i hi
  refine ⟨?_, (va_T.moved hC.wm.alike h2).kept (fun a _ ha => hC.2.2.1.2.2.1 a (Nat.not_le.mp ha))⟩
  show Value.ref (ad 5 i) = _
  rw [hC.2.2.1.2.2.2.1 i hi]
theorem Ev_ialdO {i : Nat} {x : Int32} (hd : decode (mB M) pc = .ok (.iaload, 1)) (hi : Nat.blt i 3 = true) (h1 : ¬ x < 0) (h2 : x.toNatClampNeg < eN E i) (kk : Ev E M (pc + 1) ls (vI (eX E i x.toNatClampNeg) :: st) h P) : Ev E M pc ls (vI x :: vR 5 i :: st) h P := by
  intro p e R s m args below meth c H locs cells slots lsA ad ad0 h0 hC hL hS
  obtain ⟨hz, scr, g1, g2, g3, g4, g6, g5, -⟩ := ev_old hC (i := i) (by simpa [Nat.blt_eq] using hi)
  rw [List.map_cons, List.map_cons, hz]
  refine W.iald hC.ex hC.cd (v := .int (eX E i x.toNatClampNeg)) g1 g2 g3 ?_ (g5 _ h2) rfl rfl hd (kk p e R s m args below meth c H locs cells slots lsA ad ad0 h0 hC hL (lvS_i (lvS_2 (lvS_2 hS))))
  rintro (z | z)
  · exact h1 z
  · exact absurd h2 (Nat.not_lt.mpr (Nat.le_trans g4 z))
theorem Ev_alenO {i : Nat} (hd : decode (mB M) pc = .ok (.arraylength, 1)) (hi : Nat.blt i 3 = true) (kk : Ev E M (pc + 1) ls (vI (Int32.ofNat (eN E i)) :: st) h P) : Ev E M pc ls (vR 5 i :: st) h P := by
  intro p e R s m args below meth c H locs cells slots lsA ad ad0 h0 hC hL hS
  obtain ⟨hz, scr, g1, g2, g3, g4, g6, g5, -⟩ := ev_old hC (i := i) (by simpa [Nat.blt_eq] using hi)
  rw [List.map_cons, hz]
  exact W.alen (n := Int32.ofNat (eN E i)) hC.ex hC.cd g1 g2 g6 rfl rfl hd (kk p e R s m args below meth c H locs cells slots lsA ad ad0 h0 hC hL (lvS_i (lvS_2 hS)))
/-- the two static arrays -/
theorem Ev_gets {i idx : Nat} (hd : decode (mB M) pc = .ok (.getstatic idx, 3)) (hi : Nat.blt i 2 = true) (hw : wd (.fieldLink (mY M).cls idx "TypedBlood" (cond (Nat.beq i 0) "ADDED_MARK" "PRODUCT_LIMIT") "[I")) (kk : Ev E M (pc + 3) ls (vR 5 (i + 1) :: st) h P) : Ev E M pc ls st h P := by
  intro p e R s m args below meth c H locs cells slots lsA ad ad0 h0 hC hL hS
  have hi2 : i < 2 := by simpa [Nat.blt_eq] using hi
  have hz := (ev_old hC (i := i + 1) (by omega)).1
  have hZ := hC.1.2.2.2.2.1 i hi2
  have hZ' : va_Z "TypedBlood" (cond (Nat.beq i 0) "ADDED_MARK" "PRODUCT_LIMIT") "[I" (.ref (eO E (i + 1))) (fun q => eZ E ≤ q) s s.heap := va_Z.moved hC.wm.alike (hZ.kept fun a ha hA => hC.2.1.2.2.2.2.2.2.2.2.2.1 a (Nat.not_le.mp hA))
  have k' := kk p e R s m args below meth c H locs cells slots lsA ad ad0 h0 hC hL (lvS_c (Or.inr (Or.inl ⟨rfl, by omega⟩)) hS)
  rw [List.map_cons, hz] at k'
  exact va_gets hC.ex hC.cd hZ' hC.old hC.own (hC.w hw args) (fun _ z => z) hd k'
end EvR
end
section
/-! rows that make cells -/
section EvN
variable {E : ev_E} {M : ev_M} {pc : Nat} {ls : List (Nat × ev_V)} {st : List ev_V} {h : ev_H} {P : Option ev_V ⊕ Nat → ev_H → Prop}
theorem adN_at {ad : Nat → Nat → Nat} {k i a : Nat} : adN ad k i a k i = a := by
  unfold adN; rw [if_pos ⟨rfl, rfl⟩]
theorem gI_nw {h : ev_H} {k j : Nat} : gI (nw h k) k (cnt h k) j = 0 := by
  show (if k = k ∧ cnt h k = cnt h k then (0 : Int32) else _) = 0
  rw [if_pos ⟨rfl, rfl⟩]
theorem gR_nw {h : ev_H} {k j : Nat} : gR (nw h k) k (cnt h k) j = vN := by
  show (if k = k ∧ cnt h k = cnt h k then vN else _) = vN
  rw [if_pos ⟨rfl, rfl⟩]
theorem gL_nw {h : ev_H} {k j : Nat} : gL (nw h k) k (cnt h k) j = 0 := by
  show (if k = k ∧ cnt h k = cnt h k then (0 : Int64) else _) = 0
  rw [if_pos ⟨rfl, rfl⟩]
theorem fty_dv {ci f : Nat} {ad : Nat → Nat → Nat} {h : ev_H} {k : Nat} : defaultValue (fty ci f) = cv ad (fv (nw h k) ci k (cnt h k) f) ∧ lvV (nw h k) (fv (nw h k) ci k (cnt h k) f) := by
  unfold fv
  rw [gI_nw, gR_nw]
  cases hi : isI ci f
  · refine ⟨?_, trivial⟩
    unfold fty
    rw [hi]
    cases Nat.beq ci 0 <;> cases Nat.beq f 0 <;> cases Nat.beq f 1 <;> rfl
  · refine ⟨?_, trivial⟩
    unfold fty
    rw [hi]
    rfl
theorem ev_live {h : ev_H} {k : Nat} (hk : k < 4) : lvV (nw h k) (vR k (cnt h k)) := by
  refine Or.inr (Or.inr ⟨hk, ?_⟩)
  rw [cnt_nw h k k hk hk, if_pos rfl]
  omega
theorem ev_made {p : Program} {e : Env} {R : Room} {s : State} {m : MethodId} {args : Array Value} {below : List Frame} {meth : Method} {c : Code} {H H1 : Heap} {locs : List Loc} {cells slots : Nat} {lsA : Array Slot} {ad ad0 : Nat → Nat → Nat} {h0 : ev_H} {k pc' N : Nat}
    (hC : ev_C E M p R s m meth c H locs cells slots ad ad0 h h0) (hL : ev_LR ad h (mL M) ls lsA) (hS : lvS h st) (hk : k < 4) (hN : N ≤ 512) (hR : Rl E (adN ad k (cnt h k) H.size) (nw h k) H1) (z1 : H1.size = H.size + 1) (kk : Ev E M pc' ls (vR k (cnt h k) :: st) (nw h k) P) :
    W p (eL E) e R s m args below meth c H1 locs (cells + 1) (slots + N) (ev_QE E s below ad0 h0 P) (F0 m pc' lsA (.ref H.size :: st.map (cv ad))) := by
  have hx : xt ad h (adN ad k (cnt h k) H.size) (nw h k) := xt_nw hk
  have hz := hC.2.2.2.1
  have hc1 := hC.2.2.2.2.1
  have hc2 := hC.2.2.2.2.2.1
  have k' := kk p e R s m args below meth c H1 locs _ _ lsA (adN ad k (cnt h k) H.size) ad0 h0 (hC.mk hR (by omega) hC.2.2.2.2.2.2.1 hx) (hL.mv hx) (lvS_c (ev_live hk) (hx.S hS).1)
  have e1 : cv (adN ad k (cnt h k) H.size) (vR k (cnt h k)) = .ref H.size := by
    show (if k = 4 then _ else Value.ref (adN ad k (cnt h k) H.size k (cnt h k))) = _
    rw [if_neg (by omega), adN_at]
  rw [List.map_cons, e1, (hx.S hS).2] at k'
  exact W.widen (by omega) (by omega) k'
theorem Ev_new {k i ci idx : Nat} (hd : decode (mB M) pc = .ok (.new idx, 3)) (hk : Nat.blt k 4 = true) (hi : cnt h k = i) (hs : shp k i = (0, ci)) (hw : nwd (mY M).cls idx ci) (hZ : cZ h < ZM) (kk : Ev E M (pc + 3) ls (vR k i :: st) (nw h k) P) : Ev E M pc ls st h P := by
  intro p e R s m args below meth c H locs cells slots lsA ad ad0 h0 hC hL hS
  subst hi
  have hk4 : k < 4 := by simpa [Nat.blt_eq] using hk
  have hN : nfl ci ≤ 512 := Nat.le_trans (nfl_le ci) (by decide)
  obtain ⟨rc, rs⟩ := ev_room hC hZ hN
  have hKn := ev_cls hC hw.1
  refine W.newcK hC.ex hC.cd hC.own (hC.w hw.2.1 args) (hC.w hw.2.2.1 args) (hC.w hw.2.2.2 args) rfl hd rc rs hKn.2.1 rfl fun H1 kC hkC e1 z1 o1 => ?_
  have hob := u_born (fty ci) (hC.hts args) (vT_in hw.1) hKn hkC e1 (vT_ty hw.1)
  have hR : Rl E (adN ad k (cnt h k) H.size) (nw h k) H1 := by
    refine hC.2.2.1.new1 hk4 hZ z1 o1 ⟨fun _ => ?_, fun z => ?_, fun z => ?_, fun z => ?_⟩
    · rw [hs, adN_at]
      exact ⟨hob.to fun f _ => fty_dv.1, fun f _ => (fty_dv (ad := ad)).2⟩
    · rw [hs] at z; cases z
    · rw [hs] at z; cases z
    · rw [hs] at z; exact absurd z (by simp)
  exact ev_made hC hL hS hk4 hN hR z1 kk
theorem Ev_newaI {k i n : Nat} {x : Int32} (hd : decode (mB M) pc = .ok (.newarray .int, 2)) (hk : Nat.blt k 4 = true) (hi : cnt h k = i) (hs : shp k i = (1, n)) (hx0 : ¬ x < 0) (hxn : x.toNatClampNeg = n) (hn : Nat.ble n 512 = true) (hw : wd (.arrayClass .int)) (hZ : cZ h < ZM) (kk : Ev E M (pc + 2) ls (vR k i :: st) (nw h k) P) : Ev E M pc ls (vI x :: st) h P := by
  intro p e R s m args below meth c H locs cells slots lsA ad ad0 h0 hC hL hS
  subst hi
  have hk4 : k < 4 := by simpa [Nat.blt_eq] using hk
  have hN : n ≤ 512 := by simpa using hn
  obtain ⟨rc, rs⟩ := ev_room hC hZ hN
  refine va_newaK hC.ex hC.cd (atype := .int) (hC.w hw args) rfl hd rfl hx0 hxn (by show n * 4 ≤ _; omega) rc rs rfl fun H1 cA e1 z1 o1 hA hf => ?_
  have hRA : s.vm.findClass ("[" ++ FieldType.int.toString) = some (eC E 0) := (hC.K.2 0 _ rfl).2
  have hcA : cA = eC E 0 := Option.some.inj (hf.symm.trans hRA)
  subst hcA
  have hR : Rl E (adN ad k (cnt h k) H.size) (nw h k) H1 := by
    refine hC.2.2.1.new1 hk4 hZ z1 o1 ⟨fun z => ?_, fun _ => ?_, fun z => ?_, fun z => ?_⟩
    · rw [hs] at z; cases z
    · rw [hs, adN_at, e1]
      refine congrArg some (arrV_congr fun j _ => ?_)
      rw [gI_nw]; rfl
    · rw [hs] at z; cases z
    · rw [hs] at z; exact absurd z (by simp)
  exact ev_made hC hL (lvS_2 hS) hk4 hN hR z1 kk
theorem Ev_newaL {k i n : Nat} {x : Int32} (hd : decode (mB M) pc = .ok (.newarray .long, 2)) (hk : Nat.blt k 4 = true) (hi : cnt h k = i) (hs : shp k i = (2, n)) (hx0 : ¬ x < 0) (hxn : x.toNatClampNeg = n) (hn : Nat.ble n 512 = true) (hw : wd (.arrayClass .long)) (hZ : cZ h < ZM) (kk : Ev E M (pc + 2) ls (vR k i :: st) (nw h k) P) : Ev E M pc ls (vI x :: st) h P := by
  intro p e R s m args below meth c H locs cells slots lsA ad ad0 h0 hC hL hS
  subst hi
  have hk4 : k < 4 := by simpa [Nat.blt_eq] using hk
  have hN : n ≤ 512 := by simpa using hn
  obtain ⟨rc, rs⟩ := ev_room hC hZ hN
  refine va_newaK hC.ex hC.cd (atype := .long) (hC.w hw args) rfl hd rfl hx0 hxn (by show n * 8 ≤ _; omega) rc rs rfl fun H1 cA e1 z1 o1 hA hf => ?_
  have hRA : s.vm.findClass ("[" ++ FieldType.long.toString) = some (eC E 1) := (hC.K.2 1 _ rfl).2
  have hcA : cA = eC E 1 := Option.some.inj (hf.symm.trans hRA)
  subst hcA
  have hR : Rl E (adN ad k (cnt h k) H.size) (nw h k) H1 := by
    refine hC.2.2.1.new1 hk4 hZ z1 o1 ⟨fun z => ?_, fun z => ?_, fun _ => ?_, fun z => ?_⟩
    · rw [hs] at z; cases z
    · rw [hs] at z; cases z
    · rw [hs, adN_at, e1]
      refine congrArg some (arrV_congr fun j _ => ?_)
      rw [gL_nw]; rfl
    · rw [hs] at z; exact absurd z (by simp)
  exact ev_made hC hL (lvS_2 hS) hk4 hN hR z1 kk
theorem Ev_anew {k i t n idx : Nat} {x : Int32} (hd : decode (mB M) pc = .ok (.anewarray idx, 3)) (hk : Nat.blt k 4 = true) (hi : cnt h k = i) (hs : shp k i = (t, n)) (ht : t = 3 ∨ t = 4) (hx0 : ¬ x < 0) (hxn : x.toNatClampNeg = n) (hn : Nat.ble n 512 = true) (hw : wd (.classLink (mY M).cls idx (aC t))) (hw2 : wd (.arrayOver (.object (aC t)))) (hZ : cZ h < ZM) (kk : Ev E M (pc + 3) ls (vR k i :: st) (nw h k) P) : Ev E M pc ls (vI x :: st) h P := by
  intro p e R s m args below meth c H locs cells slots lsA ad ad0 h0 hC hL hS
  subst hi
  have hk4 : k < 4 := by simpa [Nat.blt_eq] using hk
  have hN : n ≤ 512 := by simpa using hn
  obtain ⟨rc, rs⟩ := ev_room hC hZ hN
  have hRA : va_RA s (eC E (t - 1)) (.object (aC t)) := by
    rcases ht with rfl | rfl
    · exact (hC.K.2 2 _ rfl).2
    · exact (hC.K.2 3 _ rfl).2
  obtain ⟨kA, comp, k1, k2, k3, k5⟩ := hRA
  refine W.anew hC.ex hC.cd hC.own (hC.w hw args) (hC.w hw2 args) rfl hd rfl hx0 (by rw [hxn]; omega) rc (by rw [hxn]; exact rs) fun cA kA' comp' g1 g2 g3 g4 => ?_
  have hcA : cA = eC E (t - 1) := Option.some.inj (g1.symm.trans k5)
  subst hcA
  rw [hxn]
  have z1 : (H.push { cls := eC E (t - 1), slots := Array.replicate n .null, vm := .none }).size = H.size + 1 := by simp
  have o1 : ∀ q, q < H.size → (H.push { cls := eC E (t - 1), slots := Array.replicate n .null, vm := .none })[q]? = H[q]? := by
    intro q hq
    rw [Array.getElem?_push, if_neg (Nat.ne_of_lt hq)]
  have hR : Rl E (adN ad k (cnt h k) H.size) (nw h k) (H.push { cls := eC E (t - 1), slots := Array.replicate n .null, vm := .none }) := by
    refine hC.2.2.1.new1 hk4 hZ z1 o1 ⟨fun z => ?_, fun z => ?_, fun z => ?_, fun _ => ⟨?_, fun j _ => ?_⟩⟩
    · rw [hs] at z; rcases ht with rfl | rfl <;> cases z
    · rw [hs] at z; rcases ht with rfl | rfl <;> cases z
    · rw [hs] at z; rcases ht with rfl | rfl <;> cases z
    · rw [hs, adN_at, arrV_new]
      rw [Array.getElem?_push, if_pos rfl]
      refine congrArg some (arrV_congr fun j _ => ?_)
      rw [gR_nw]; rfl
    · rw [gR_nw]; trivial
  exact ev_made hC hL (lvS_2 hS) hk4 hN hR z1 kk
def wt : List ev_V → Nat
  | [] => 0
  | v :: t => cond (sg v) 1 2 + wt t
theorem cv_wt {ad : Nat → Nat → Nat} : ∀ st : List ev_V, ((st.map (cv ad)).map fun v => v.category).sum = wt st
  | [] => rfl
  | v :: t => by
    have e : (cv ad v).category = cond (sg v) 1 2 := by
      cases hq : sg v
      · rcases v with (_ | ⟨k, i⟩) | (x | x)
        · cases hq
        · cases hq
        · cases hq
        · rfl
      · rw [cv_sg hq]; rfl
    rw [List.map_cons, List.map_cons, List.sum_cons, e, cv_wt t]
    rfl
theorem Ev_objInit {a b idx : Nat} (hd : decode (mB M) pc = .ok (.invokespecial idx, 3)) (hw : wd (.methodLink (mY M).cls idx Lib.objectInit)) (hw2 : wd (.instanceMethod Lib.objectInit)) (hw3 : wd (.code Lib.objectInit ⟨#[0xb1]⟩ 1 none)) (hst : Nat.ble (wt st) 8 = true) (kk : Ev E M (pc + 3) ls st h P) : Ev E M pc ls (vR a b :: st) h P := by
  intro p e R s m args below meth c H locs cells slots lsA ad ad0 h0 hC hL hS
  obtain ⟨z, hz⟩ := cv_ref (ad := ad) a b
  rw [List.map_cons, hz]
  have i12 := hC.2.1.2.2.2.2.2.2.2.2.2.2.2.1
  have i13 := hC.2.1.2.2.2.2.2.2.2.2.2.2.2.2.1
  have hst8 : wt st ≤ 8 := by simpa using hst
  refine W.objInit hC.ex hC.cd hC.own (hC.w hw args) (hC.w hw2 args) (hC.w hw3 args) rfl (hL.sz.trans hC.ml.symm) rfl hd (by omega) ?_ (kk p e R s m args below meth c H locs cells slots lsA ad ad0 h0 hC hL (lvS_2 hS))
  rw [cv_wt]
  show 2 * 0 + wt st + 12 ≤ R.locals
  omega
end EvN
/-! calls -/
def eargs : Nat → List ev_V → List (Nat × ev_V)
  | _, [] => []
  | i, v :: t => (i, v) :: eargs (i + 1) t
theorem ev_entry {ad : Nat → Nat → Nat} {h : ev_H} : ∀ (as : List ev_V) (n : Nat), as.all sg = true → lvS h as → ∀ i v, lget (eargs n as) i = some v → (i, cv ad v) ∈ lv_args n (as.map (cv ad)) ∧ lvV h v ∧ (cv ad v).category = 1
  | [], n, _, _, i, v, q => by cases q
  | a :: t, n, hs, hl, i, v, q => by
    have hs1 : sg a = true := by
      have := List.all_cons (a := a) (l := t) (f := sg) ▸ hs
      simp only [Bool.and_eq_true] at this
      exact this.1
    have hs2 : t.all sg = true := by
      have := List.all_cons (a := a) (l := t) (f := sg) ▸ hs
      simp only [Bool.and_eq_true] at this
      exact this.2
    have e : lv_args n ((a :: t).map (cv ad)) = (n, cv ad a) :: lv_args (n + 1) (t.map (cv ad)) := by
      rw [List.map_cons]
      show (n, cv ad a) :: lv_args (if (cv ad a).category = 2 then n + 2 else n + 1) _ = _
      rw [cv_sg hs1, if_neg (by decide)]
    rw [e]
    by_cases hi : n = i
    · subst hi
      have : some a = some v := by simpa [eargs, lget] using q
      cases this
      exact ⟨List.mem_cons_self, lvS_1 hl, cv_sg hs1⟩
    · have e2 : Nat.beq n i = false := nbq hi
      have q' : lget (eargs (n + 1) t) i = some v := by simpa [eargs, lget, e2] using q
      obtain ⟨r1, r2, r3⟩ := ev_entry t (n + 1) hs2 (lvS_2 hl) i v q'
      exact ⟨List.mem_cons_of_mem _ r1, r2, r3⟩
theorem ev_sl {ad : Nat → Nat → Nat} : ∀ as : List ev_V, as.all sg = true → (lg_sl (as.map (cv ad))).length = as.length
  | [], _ => rfl
  | a :: t, hs => by
    have hs' : (sg a && t.all sg) = true := by rw [← List.all_cons]; exact hs
    simp only [Bool.and_eq_true] at hs'
    have ih := ev_sl (ad := ad) t hs'.2
    unfold lg_sl at ih ⊢
    rw [List.map_cons, List.flatMap_cons, cv_sg hs'.1, if_neg (by decide), List.length_append, ih]
    simp [Nat.add_comm]
def cwM (M : ev_M) : Cond := .codeWith (mY M) (mB M) (mL M) (mR M) (mH M)
/-- a method that may be called -/
def mcw (M : ev_M) : Prop := (wd (cwM M) ∨ (mH M = [] ∧ wd (.code (mY M) (mB M) (mL M) (mR M)))) ∧ wd (.initialized (mY M).cls) ∧ plainName (mY M).cls = true ∧ (mY M).cls ≠ "java/lang/invoke/MethodHandle" ∧ (mY M).cls ≠ "java/lang/invoke/VarHandle" ∧ mL M ≤ 11
theorem mcw.cw {E : ev_E} {M : ev_M} (hG : ev_G E) (q : mcw M) {U : State} (hW : (eS E).WarmedH U.vm) (a : Array Value) : (cwM M).before a U = true := by
  rcases q.1 with z | ⟨z1, z2⟩
  · exact gw_at z.2 hW (hG.2.1 _ z.1)
  · have := gw_at (A' := a) z2.2 hW (hG.2.1 _ z2.1)
    unfold cwM
    rw [z1]
    have h2 : (Cond.code (mY M) (mB M) (mL M) (mR M)).holds a U none U [] = true := this
    show (Cond.codeWith (mY M) (mB M) (mL M) (mR M) []).holds a U none U [] = true
    unfold Cond.holds at h2 ⊢
    rw [← Cond.code_iff_codeWith_nil]
    exact h2
def rmM (E : ev_E) (M : ev_M) (H : Heap) : Room := { frames := mD M + 2, locals := 30 * mD M + 124, cells := eZ E + ZM - H.size, slots := 512 * (eZ E + ZM - H.size) }
theorem ev_met {E : ev_E} {M : ev_M} {as : List ev_V} {h : ev_H} {P : Option ev_V ⊕ Nat → ev_H → Prop} {ad : Nat → Nat → Nat} {H : Heap} (hG : ev_G E) (hpl : plainName (mY M).cls = true) (hev : Ev E M 0 (eargs 0 as) [] h P) (hsg : as.all sg = true) (hlen : as.length ≤ mL M) (hR : Rl E ad h H) (hlv : lvS h as) :
    MetFree (eL E) (mY M) (headSpec [cwM M] (rmM E M H)) (fun a st => a = (as.map (cv ad)).toArray ∧ st.heap = H ∧ (eS E).WarmedH st.vm) (fun _ _ _ _ _ => True) (fun _ st o t => ev_Q E st ad h P o t) := by
  refine MetFree.of_bodyS (code := mB M) (maxLocals := mL M) (ret := mR M) hpl ?_ ?_
  · intro args s m hh hn
    obtain ⟨m9, meth, c, hn9, h1, h2, h3, h4, -, h5, h6, -⟩ := Cond.codeWith_spec (atoms_spec (ws := [cwM M]) hh _ List.mem_cons_self)
    cases hn.symm.trans hn9
    exact ⟨meth, c, h1, h2, h3, h4, h5, h6⟩
  · intro p e s m args below meth c s₁ B hml hP _
    obtain ⟨rfl, hH, hWm⟩ := hP
    have hh0 : s₁.heap = s.heap := by rw [B.state]; rfl
    have htab : c.exceptionTable.toList = tableOf (mH M) := vx_table (x := mY M) B (atoms_spec (ws := [cwM M]) B.pre _ List.mem_cons_self)
    have hown : s.vm.findClass (mY M).cls = some m.cls := findClass_of_methodNamed B.named
    have r1 := hR.1
    have r2 := hR.2.1
    have hI : ev_I E M p (rmM E M H) s m meth c := ⟨B.exec, B.bytes, B.returns, hml, hown, (name_of_methodNamed B.named B.method).1, B.notSynchronized, htab, hWm, fun q hq => by rw [hH]; exact hR.2.2.1 q hq, by rw [hH, r1]; omega, Nat.le_refl _, Nat.le_refl _, by
      show eZ E + ZM ≤ s.heap.size + (eZ E + ZM - H.size)
      rw [hH]; omega, by rw [hH]; exact Nat.le_refl _⟩
    have hC : ev_C E M p (rmM E M H) s m meth c s.heap [] 0 0 ad ad h h := ⟨hG, hI, by rw [hH]; exact hR, Nat.le_refl _, by omega, by omega, (fun q hq => nomatch hq), xt.rf⟩
    have hen := lv_entry (as.map (cv ad)) (n := mL M) (by rw [ev_sl as hsg]; exact hlen)
    have w := hev p e (rmM E M H) s m (as.map (cv ad)).toArray below meth c s.heap [] 0 0 _ ad ad h hC ⟨_, hen, ev_entry as 0 hsg hlv⟩ trivial
    have w' : W p (eL E) e (rmM E M H) s m (as.map (cv ad)).toArray below meth c s.heap [] 0 0 (ev_QE E s below ad h P) (entryFrame m (as.map (cv ad)).toArray (mL M)) := by
      rw [lg_entry_eq]; exact w
    obtain ⟨t, a1, o, b1, b2, b3⟩ := w' s₁ hh0 (Stand.of_body B)
    exact ⟨t, o, a1, b1, b2, b3⟩
/-- how a call of M' comes back into the frame g -/
def ev_B (E : ev_E) (M : ev_M) (p : Program) (e : Env) (R : Room) (s : State) (m : MethodId) (args : Array Value) (below : List Frame) (meth : Method) (c : Code) (ad ad0 : Nat → Nat → Nat) (h h0 : ev_H) (P' : Option ev_V ⊕ Nat → ev_H → Prop) (S0 : State) (g : JFrame) (len : Nat) : Prop :=
  ∃ (h' : ev_H) (ad' : Nat → Nat → Nat) (T' : State) (locs' : List Loc), ev_C E M p R s m meth c T'.heap locs' (T'.heap.size - s.heap.size) (512 * (T'.heap.size - s.heap.size)) ad' ad0 h' h0 ∧ xt ad h ad' h' ∧
    Stand p (eL E) e R s m args below meth c T' locs' (T'.heap.size - s.heap.size) (512 * (T'.heap.size - s.heap.size)) ∧
    ((∃ v : Option ev_V, P' (.inl v) h' ∧ (∀ w, v = some w → lvV h' w) ∧ Steps p.tables e below S0 (T'.setTop { g with pc := g.pc + len, stack := (v.map (cv ad')).toList ++ g.stack })) ∨
     (∃ (x : Nat) (q : Addr) (ce : Cell), P' (.inr x) h' ∧ x < 5 ∧ T'.heap[q]? = some ce ∧ ce.vm = .none ∧ s.vm.findClass (xN x) = some ce.cls ∧ Steps p.tables e below S0 ((T'.setTop g).pushFrame (.throwing q))))
theorem ev_call {E : ev_E} {M M' : ev_M} {p : Program} {e : Env} {R : Room} {s : State} {m : MethodId} {args : Array Value} {below : List Frame} {meth : Method} {c : Code} {H : Heap} {locs : List Loc} {cells slots : Nat} {ad ad0 : Nat → Nat → Nat} {h h0 : ev_H} {P' : Option ev_V ⊕ Nat → ev_H → Prop} {as : List ev_V}
    (hC : ev_C E M p R s m meth c H locs cells slots ad ad0 h h0) (hdp : mD M' < mD M) (mw : mcw M') (hsg : as.all sg = true) (hlen : as.length ≤ mL M') (hlv : lvS h as) (hev : Ev E M' 0 (eargs 0 as) [] h P')
    {T : State} (hT : T.heap = H) (X : Stand p (eL E) e R s m args below meth c T locs cells slots) {g : JFrame} (hg : g.method = m) (hsize : g.locals.size = c.maxLocals) {ig : Instr} {len : Nat} (hdg : decode c.code g.pc = .ok (ig, len)) (hW : 2 * g.monitorRoom + (g.stack.map fun v => v.category).sum ≤ 8) {mk : MethodId} (hn : T.methodNamed? (mY M') = some mk) :
    ev_B E M p e R s m args below meth c ad ad0 h h0 P' (doInvoke e (T.setTop g) [] mk (as.map (cv ad)).toArray).1 g len := by
  have hWs : (eS E).WarmedH T.vm := State.WarmedH.trans hC.wm X.warmed
  have hG := hC.1
  have hR := hC.2.2.1
  have hM := ev_met (M := M') hG mw.2.2.1 hev hsg hlen hR hlv
  have h2 : (cwM M').before (as.map (cv ad)).toArray T = true := mw.cw hG hWs _
  have h1 : (headSpec [cwM M'] (rmM E M' H)).pre.before (as.map (cv ad)).toArray T = true := atoms_intro fun w hw => by
    rw [List.mem_singleton.mp hw]; exact h2
  have h3 : (Cond.initialized (mY M').cls).before (as.map (cv ad)).toArray T = true := gw_at mw.2.1.2 hWs (hG.2.1 _ mw.2.1.1)
  have r1 := hR.1
  have r2 := hR.2.1
  have z1 := hC.2.2.2.1
  have z2 := hC.2.2.2.2.1
  have z3 := hC.2.2.2.2.2.1
  have i11 := hC.2.1.2.2.2.2.2.2.2.2.2.2.1
  have i12 := hC.2.1.2.2.2.2.2.2.2.2.2.2.2.1
  have i13 := hC.2.1.2.2.2.2.2.2.2.2.2.2.2.2.1
  have i14 := hC.2.1.2.2.2.2.2.2.2.2.2.2.2.2.2.1
  have i15 := hC.2.1.2.2.2.2.2.2.2.2.2.2.2.2.2.2
  have mL11 := mw.2.2.2.2.2
  have hPc : (as.map (cv ad)).toArray = (as.map (cv ad)).toArray ∧ (T.calling g mk (as.map (cv ad)).toArray).heap = H ∧ (eS E).WarmedH (T.calling g mk (as.map (cv ad)).toArray).vm := ⟨rfl, hT, hWs⟩
  generalize haa : (as.map (cv ad)).toArray = a at hM h1 h2 h3 hPc ⊢
  obtain ⟨m9, methY, cY, hn9, hmY, hcY, -, hlY, -⟩ := Cond.codeWith_spec h2
  cases Option.some.inj (hn9.symm.trans hn)
  obtain ⟨kY, hkY, -⟩ := className_of_methodNamed hn
  have hinitY : kY.init = .initialized := Cond.initialized_spec (findClass_of_methodNamed hn) hkY h3
  have hA : At T g.method c below := by rw [hg]; exact X.here
  have happ : (headSpec [cwM M'] (rmM E M' H)).appliesLoose (mY M') e.platform (T.calling g mk a) = true :=
    Spec.appliesLoose_calling (g := g) hA hdg hn hkY hinitY
      (X.room_calling (g := g) (R' := rmM E M' H) hsize hmY hcY (by show mD M' + 2 + 1 ≤ R.frames; omega) (by rw [hlY]; show _ + (mL M' + 11) + (30 * mD M' + 124) ≤ R.locals; omega) (by show cells + (eZ E + ZM - H.size) ≤ R.cells; omega) (by show slots + 512 * (eZ E + ZM - H.size) ≤ R.slots; omega)) h1
  obtain ⟨mid, hmid⟩ := hA.above
  have hfr : (T.setTop g).frames = (.java g :: mid) ++ below := by rw [State.frames_setTop' g hA.top, hmid]; rfl
  obtain ⟨o, s₂, hsteps, -, hend, hq⟩ := Steps.callFree hM p X.admits X.cas X.clock (acts := []) hfr happ (by rw [← haa] at hPc ⊢; exact hPc) trivial
  have hq' : ev_Q E (T.calling g mk a) ad h P' o s₂ := hq
  rw [State.frames_setTop' g hA.top] at hend
  obtain ⟨g₀, hg0⟩ := Option.isSome_iff_exists.mp hA.top
  obtain ⟨rr, hr⟩ := State.topJava?_eq_some.mp hg0
  have hr' : (({ T with heap := s₂.heap, slotsUsed := s₂.slotsUsed } : State).setVm s₂.vm).frames = .java g₀ :: rr := hr
  obtain ⟨r, h', ad', hW₂, ⟨L, hsm, hL⟩, hR', hx', hO, hP'⟩ := hq'
  obtain ⟨e2, q2, q3, q4, q5, q6⟩ := id hsm
  have e3 : s₂ = ({ (T.calling g mk a).setFrames s₂.frames with heap := s₂.heap, slotsUsed := s₂.slotsUsed } : State).setVm s₂.vm := by
    have : s₂ = ({ s₂ with vm := (T.calling g mk a).vm } : State).setVm s₂.vm := rfl
    rw [e2] at this
    exact this
  have hW' : T.WarmedH s₂.vm := hW₂
  have hTH : T.heap.size = H.size := by rw [hT]
  have q2' : H.size ≤ s₂.heap.size := by rw [← hTH]; exact q2
  have hsame : T.sameButNew ({ T with heap := s₂.heap, slotsUsed := s₂.slotsUsed } : State) L (s₂.heap.size - T.heap.size) (512 * (s₂.heap.size - T.heap.size)) := by
    refine ⟨?_, q2, ?_, q4, q5, q6⟩
    · obtain ⟨t, ht, -⟩ := State.frames_cons hr
      show ({ T with heap := s₂.heap, slotsUsed := s₂.slotsUsed } : State) = { T.setFrames T.frames with heap := s₂.heap, slotsUsed := s₂.slotsUsed }
      rw [State.setFrames_self ht]
    · show s₂.heap.size ≤ T.heap.size + (s₂.heap.size - T.heap.size)
      have : T.heap.size ≤ s₂.heap.size := q2
      omega
  rw [hTH] at hsame
  subst hg
  have X' : Stand p (eL E) e R s g.method args below meth c (({ T with heap := s₂.heap, slotsUsed := s₂.slotsUsed } : State).setVm s₂.vm) (locs ++ L) (cells + (s₂.heap.size - H.size)) (slots + 512 * (s₂.heap.size - H.size)) :=
    ⟨X.admits, X.cas, X.clock, X.frames, X.room, X.hears, X.method, X.code, (X.here.setHeapUsed s₂.heap s₂.slotsUsed).setVm hW'.alike, X.tail, State.WarmedH.trans X.warmed hW', X.limits, X.bytes, X.same.trans (hsame.setVm s.vm)⟩
  have X2 := stand_widen X' (k := s₂.heap.size - s.heap.size) (n := 512 * (s₂.heap.size - s.heap.size)) (by omega) (by omega)
  have hlocs : ∀ q ∈ locs ++ L, eZ E ≤ q.base := fun q hq => by
    rcases List.mem_append.mp hq with z | z
    · exact hC.2.2.2.2.2.2.1 q z
    · exact hL q z
  have hC2 : ev_C E M p R s g.method meth c s₂.heap (locs ++ L) (s₂.heap.size - s.heap.size) (512 * (s₂.heap.size - s.heap.size)) ad' ad0 h' h0 := hC.mk hR' (by omega) hlocs hx'
  refine ⟨h', ad', ({ T with heap := s₂.heap, slotsUsed := s₂.slotsUsed } : State).setVm s₂.vm, locs ++ L, hC2, hx', X2, ?_⟩
  rcases r with v | x
  · left
    have hov : o = .returned (v.map (cv ad')) ∧ ∀ w, v = some w → lvV h' w := by
      cases v with
      | none => exact ⟨hO, fun w z => nomatch z⟩
      | some w =>
        obtain ⟨o1, o2⟩ := hO
        exact ⟨o1, fun w' z => by cases z; exact o2⟩
    obtain ⟨rfl, hov2⟩ := hov
    refine ⟨v, hP', hov2, ?_⟩
    obtain ⟨c₂, i₂, len₂, hc₂, hd₂, hf₂⟩ := hend
    have hcc : c₂ = c := by
      have h1 : s₂.code? g.method = T.code? g.method := by
        rw [State.code?_eq, State.code?_eq, hW'.alike.method?]
      exact Option.some.inj (hc₂.symm.trans (h1.trans hA.code))
    subst hcc
    have hlen2 : len₂ = len := by rw [hdg] at hd₂; cases hd₂; rfl
    subst hlen2
    have hs₂ : s₂ = (({ T with heap := s₂.heap, slotsUsed := s₂.slotsUsed } : State).setVm s₂.vm).setTop { g with pc := g.pc + len₂, stack := (v.map (cv ad')).toList ++ g.stack } := by
      refine e3.trans ?_
      rw [hf₂, State.calling_eq hA.top, State.setFrames_setFrames, State.setTop_of_frames _ hr', hr]
      rfl
    rw [← hs₂]
    exact hsteps
  · right
    obtain ⟨hx5, q, ce, rfl, hce, hcv, hcl⟩ := hO
    have hcl' : s.vm.findClass (xN x) = some ce.cls := by
      have h9 : T.vm.findClass (xN x) = some ce.cls := hcl
      rw [X.warmed.alike.findClass] at h9
      exact h9
    refine ⟨x, q, ce, hP', hx5, hce, hcv, hcl', ?_⟩
    have hf₂ : s₂.frames = .throwing q :: .java g :: T.frames.tail := hend
    have hs₂ : s₂ = ((({ T with heap := s₂.heap, slotsUsed := s₂.slotsUsed } : State).setVm s₂.vm).setTop g).pushFrame (.throwing q) := by
      refine e3.trans ?_
      rw [hf₂, State.calling_eq hA.top, State.setFrames_setFrames, State.pushFrame, State.frames_setTop _ hr', State.setTop_of_frames _ hr', State.setFrames_setFrames, hr]
      rfl
    rw [← hs₂]
    exact hsteps
end
section
/-! calls, throws, catches -/
def xJ (ct : Nat) : Nat := cond (Nat.beq ct 13) 0 (cond (Nat.beq ct 19) 1 (cond (Nat.beq ct 25) 2 (cond (Nat.beq ct 31) 3 4)))
def okc (z : Nat × Nat × Nat × Nat) : Bool := Nat.beq (xI (xJ z.2.2.2)) z.2.2.2
def hcov (z : Nat × Nat × Nat × Nat) (pc : Nat) : Bool := Nat.ble z.1 pc && Nat.blt pc z.2.1
def hnd : List (Nat × Nat × Nat × Nat) → Nat → Nat → Option Nat
  | [], _, _ => none
  | z :: r, pc, x => cond (hcov z pc && Nat.beq z.2.2.2 (xI x)) (some z.2.2.1) (hnd r pc x)
theorem xJ_lt (ct : Nat) : xJ ct < 5 := by
  unfold xJ
  cases Nat.beq ct 13 <;> cases Nat.beq ct 19 <;> cases Nat.beq ct 25 <;> cases Nat.beq ct 31 <;> decide
theorem xI_ne0 {x : Nat} (q : x < 5) : xI x ≠ 0 := by
  rcases ev_five q with rfl | rfl | rfl | rfl | rfl <;> decide
theorem hnd_split : ∀ (hh : List (Nat × Nat × Nat × Nat)) (pc x t : Nat), hnd hh pc x = some t → ∃ pre z suf, hh = pre ++ z :: suf ∧ hcov z pc = true ∧ z.2.2.2 = xI x ∧ z.2.2.1 = t ∧ ∀ y ∈ pre, hcov y pc = false ∨ y.2.2.2 ≠ xI x
  | [], _, _, _, q => nomatch q
  | z :: r, pc, x, t, q => by
    cases hb : (hcov z pc && Nat.beq z.2.2.2 (xI x))
    · have q' : hnd r pc x = some t := by
        have e : hnd (z :: r) pc x = hnd r pc x := by
          show cond (hcov z pc && Nat.beq z.2.2.2 (xI x)) _ _ = _
          rw [hb]; rfl
        rw [← e]; exact q
      obtain ⟨pre, z', suf, h1, h2, h3, h4, h5⟩ := hnd_split r pc x t q'
      refine ⟨z :: pre, z', suf, by rw [h1]; rfl, h2, h3, h4, fun y hy => ?_⟩
      rcases List.mem_cons.mp hy with rfl | hy
      · simp only [Bool.and_eq_false_iff] at hb
        rcases hb with hb | hb
        · exact Or.inl hb
        · exact Or.inr (nbq' hb)
      · exact h5 y hy
    · simp only [Bool.and_eq_true] at hb
      have e : hnd (z :: r) pc x = some z.2.2.1 := by
        show cond (hcov z pc && Nat.beq z.2.2.2 (xI x)) _ _ = _
        rw [hb.1, hb.2]; rfl
      refine ⟨[], z, r, rfl, hb.1, Nat.eq_of_beq_eq_true hb.2, Option.some.inj (e.symm.trans q), fun y hy => nomatch hy⟩
theorem lvS_mem0 {h : ev_H} : ∀ (l : List ev_V), lvS h l ↔ ∀ v ∈ l, lvV h v
  | [] => ⟨(fun _ _ z => nomatch z), fun _ => trivial⟩
  | a :: t => ⟨fun q v z => (List.mem_cons.mp z).elim (fun e => by rw [e]; exact lvS_1 q) (fun z => (lvS_mem0 t).mp (lvS_2 q) v z), fun q => lvS_c (q a List.mem_cons_self) ((lvS_mem0 t).mpr fun v z => q v (List.mem_cons_of_mem _ z))⟩
theorem lvS_mem {h : ev_H} {l : List ev_V} : lvS h l ↔ ∀ v ∈ l, lvV h v := lvS_mem0 l
def ev_X (E : ev_E) (M : ev_M) (pc : Nat) (ls : List (Nat × ev_V)) (P : Option ev_V ⊕ Nat → ev_H → Prop) (x : Nat) (h' : ev_H) : Prop :=
  (mH M = [] ∧ P (.inr x) h') ∨ ((mY M).cls = "TypedBloodLaw" ∧ (mH M).all okc = true ∧ ∃ t, hnd (mH M) pc x = some t ∧ ∀ q, Ev E M t ls [vR 4 q] h' P)
def ev_K (E : ev_E) (M : ev_M) (pc : Nat) (ls : List (Nat × ev_V)) (st : List ev_V) (P : Option ev_V ⊕ Nat → ev_H → Prop) : Option ev_V ⊕ Nat → ev_H → Prop := fun r h' => match r with
  | .inl none => Ev E M (pc + 3) ls st h' P
  | .inl (some v) => Ev E M (pc + 3) ls (v :: st) h' P
  | .inr x => ev_X E M pc ls P x h'
theorem ev_fin {E : ev_E} {M : ev_M} {p : Program} {e : Env} {R : Room} {s : State} {m : MethodId} {args : Array Value} {below : List Frame} {meth : Method} {c : Code} {ad ad0 : Nat → Nat → Nat} {h h0 : ev_H} {pc : Nat} {ls : List (Nat × ev_V)} {st : List ev_V} {P : Option ev_V ⊕ Nat → ev_H → Prop} {S0 : State} {lsA : Array Slot} {g : JFrame}
    (hL : ev_LR ad h (mL M) ls lsA) (hS : lvS h st) (hg : g = F0 m pc lsA (st.map (cv ad))) (hB : ev_B E M p e R s m args below meth c ad ad0 h h0 (ev_K E M pc ls st P) S0 g 3) : ∃ t, Steps p.tables e below S0 t ∧ ev_QE E s below ad0 h0 P t := by
  subst hg
  obtain ⟨h', ad', T', locs', hC', hx, X', hr⟩ := hB
  rcases hr with ⟨v, hk, hlv, hst⟩ | ⟨x, q, ce, hk, hx5, hce, hcv, hcl, hst⟩
  · cases v with
    | none =>
      have hk' : Ev E M (pc + 3) ls st h' P := hk
      have w := hk' p e R s m args below meth c T'.heap locs' _ _ lsA ad' ad0 h0 hC' (hL.mv hx) (hx.S hS).1
      rw [(hx.S hS).2] at w
      obtain ⟨t, a, b⟩ := w T' rfl X'
      exact ⟨t, hst.trans a, b⟩
    | some v =>
      have hk' : Ev E M (pc + 3) ls (v :: st) h' P := hk
      have w := hk' p e R s m args below meth c T'.heap locs' _ _ lsA ad' ad0 h0 hC' (hL.mv hx) (lvS_c (hlv v rfl) (hx.S hS).1)
      rw [List.map_cons, (hx.S hS).2] at w
      obtain ⟨t, a, b⟩ := w T' rfl X'
      exact ⟨t, hst.trans a, b⟩
  · have htab : c.exceptionTable.toList = tableOf (mH M) := hC'.2.1.2.2.2.2.2.2.2.1
    rcases (show ev_X E M pc ls P x h' from hk) with ⟨hm, hp⟩ | ⟨hlaw, hok, t, hh, hev⟩
    · have hlocks : meth.locks = false := hC'.2.1.2.2.2.2.2.2.1
      obtain ⟨st1, hrun, hend, hW, hsm⟩ := X'.leaveThrown q (g := F0 m pc lsA (st.map (cv ad))) rfl rfl rfl (fun z hz => by rw [htab, hm] at hz; exact nomatch hz) hlocks
      refine ⟨_, hst.trans st1, .threw q, hrun, hend, .inr x, h', ad', hW, ⟨locs', hsm, hC'.2.2.2.2.2.2.1⟩, hC'.2.2.1, hC'.2.2.2.2.2.2.2, ⟨hx5, q, ce, rfl, hce, hcv, hcl⟩, hp⟩
    · obtain ⟨pre, z, suf, g1, g2, g3, g4, g5⟩ := hnd_split (mH M) pc x t hh
      have hpl : e.platform.magicAccessors = ({} : Platform).magicAccessors := by rw [X'.admits.platform]
      have hown : s.vm.findClass "TypedBloodLaw" = some m.cls := hlaw ▸ hC'.own
      obtain ⟨c3, c4, hc3, hc4, hasg⟩ := Cond.castable_spec (hC'.w (xl x hx5).2 args)
      cases Option.some.inj (hc3.symm.trans hcl)
      obtain ⟨c5, hc5, hcl5⟩ := Cond.classLink_spec hown (hC'.w (xl x hx5).1 args) e.platform hpl
      cases Option.some.inj (hc4.symm.trans hc5)
      have hsplit : c.exceptionTable.toList = tableOf pre ++ (⟨z.1, z.2.1, z.2.2.1, z.2.2.2⟩ : ExceptionTableEntry) :: tableOf suf := by
        rw [htab, g1]; simp [tableOf]
      have hcv1 : ∀ y : Nat × Nat × Nat × Nat, covers (⟨y.1, y.2.1, y.2.2.1, y.2.2.2⟩ : ExceptionTableEntry) pc = hcov y pc := by
        intro y
        unfold covers hcov
        have e1 : decide (y.1 ≤ pc) = Nat.ble y.1 pc := by
          cases hb : Nat.ble y.1 pc
          · exact decide_eq_false fun w => by rw [Nat.ble_eq_true_of_le w] at hb; cases hb
          · exact decide_eq_true (Nat.le_of_ble_eq_true hb)
        have e2 : decide (pc < y.2.1) = Nat.blt pc y.2.1 := by
          show decide (pc + 1 ≤ y.2.1) = Nat.ble (pc + 1) y.2.1
          cases hb : Nat.ble (pc + 1) y.2.1
          · exact decide_eq_false fun w => by rw [Nat.ble_eq_true_of_le w] at hb; cases hb
          · exact decide_eq_true (Nat.le_of_ble_eq_true hb)
        show (decide (y.1 ≤ pc) && decide (pc < y.2.1)) = _
        rw [e1, e2]
      obtain ⟨vm', X2, st2⟩ := X'.thenCaughtThrough q (g := F0 m pc lsA (st.map (cv ad))) rfl hst hce (by rw [hcv]; rfl) (by obtain ⟨k9, h9, -⟩ := Vm.findClass_spec hcl; exact ⟨k9, h9⟩) (tableOf pre) ⟨z.1, z.2.1, z.2.2.1, z.2.2.2⟩ (tableOf suf) hsplit
        (fun y hy => by
          obtain ⟨y0, hy0, rfl⟩ := List.mem_map.mp hy
          rcases g5 y0 hy0 with w | w
          · exact Or.inl ((hcv1 y0).trans w)
          · have hok0 : okc y0 = true := List.all_eq_true.mp hok y0 (by rw [g1]; exact List.mem_append_left _ hy0)
            have e0 : xI (xJ y0.2.2.2) = y0.2.2.2 := Nat.eq_of_beq_eq_true hok0
            have hne : x ≠ xJ y0.2.2.2 := fun e9 => w (by rw [← e0, e9])
            have hj := xJ_lt y0.2.2.2
            have hlk := hC'.w (xl (xJ y0.2.2.2) hj).1 args
            rw [e0] at hlk
            obtain ⟨c6, hc6, hcl6⟩ := Cond.classLink_spec hown hlk e.platform hpl
            obtain ⟨a8, b8, n1, n2, n3⟩ := hC'.1.2.2.2.2.2.2.2.2.1 x (xJ y0.2.2.2) hx5 hj hne
            have hal := hC'.wm.alike
            have n1' : s.vm.findClass (xN x) = some a8 := by rw [hal.findClass]; exact n1
            have n2' : s.vm.findClass (xN (xJ y0.2.2.2)) = some b8 := by rw [hal.findClass]; exact n2
            cases Option.some.inj (n1'.symm.trans hcl)
            cases Option.some.inj (n2'.symm.trans hc6)
            refine Or.inr ⟨?_, _, hcl6, by rw [hal.assignable]; exact n3⟩
            show y0.2.2.2 ≠ 0
            rw [← e0]
            exact xI_ne0 hj) ((hcv1 z).trans g2) (Or.inr ⟨by show z.2.2.2 ≠ 0; rw [g3]; exact xI_ne0 hx5, c4, by show s.vm.ClassLinks e.platform m.cls z.2.2.2 c4; rw [g3]; exact hcl5, hasg⟩)
      have w := hev q p e R s m args below meth c T'.heap locs' _ _ lsA ad' ad0 h0 hC' (hL.mv hx) (lvS_c (Or.inl rfl) trivial)
      obtain ⟨t2, a, b⟩ := w (T'.setVm vm') rfl X2
      refine ⟨t2, st2.trans ?_, b⟩
      subst g4
      exact a
/-- what callers of a static method, of another method, of a constructor need of it -/
def stM (M : ev_M) (n : Nat) : Prop := mcw M ∧ wd (.static (mY M)) ∧ (parseMethodDescriptor (mY M).desc).map (fun d => d.parameters.length) = some n ∧ n ≤ mL M
def vtM (M : ev_M) (n : Nat) : Prop := mcw M ∧ wd (.instanceMethod (mY M)) ∧ wd (.selects (mY M).cls (mY M) (mY M)) ∧ (parseMethodDescriptor (mY M).desc).map (fun d => d.parameters.length) = some n ∧ n + 1 ≤ mL M
def itM (M : ev_M) (n : Nat) : Prop := mcw M ∧ wd (.instanceMethod (mY M)) ∧ wd (.code (mY M) (mB M) (mL M) none) ∧ (mY M).name = "<init>" ∧ (parseMethodDescriptor (mY M).desc).map (fun d => d.parameters.length) = some n ∧ n + 1 ≤ mL M
theorem ev_len {d : String} {n : Nat} {l : List Value} (q : (parseMethodDescriptor d).map (fun d => d.parameters.length) = some n) (hl : l.length = n) : ∀ sig, parseMethodDescriptor d = some sig → l.length = sig.parameters.length := by
  intro sig hs
  rw [hs] at q
  rw [hl]
  exact (Option.some.inj q).symm
theorem wt8 {st : List ev_V} {m : MethodId} {pc : Nat} {lsA : Array Slot} {ad : Nat → Nat → Nat} (hw : Nat.ble (wt st) 8 = true) : 2 * (F0 m pc lsA (st.map (cv ad))).monitorRoom + ((F0 m pc lsA (st.map (cv ad))).stack.map fun v => v.category).sum ≤ 8 := by
  show 2 * 0 + ((st.map (cv ad)).map fun v => v.category).sum ≤ 8
  rw [cv_wt]
  have : wt st ≤ 8 := by simpa using hw
  omega
section EvK
variable {E : ev_E} {M M' : ev_M} {pc : Nat} {ls : List (Nat × ev_V)} {st : List ev_V} {h : ev_H} {P : Option ev_V ⊕ Nat → ev_H → Prop}
theorem Ev_callS {as st' : List ev_V} {idx n : Nat} (hd : decode (mB M) pc = .ok (.invokestatic idx, 3)) (hst : st' = as.reverse ++ st) (hn : as.length = n) (hdp : Nat.blt (mD M') (mD M) = true) (mw : stM M' n) (hl : wd (.methodLink (mY M).cls idx (mY M'))) (hsg : as.all sg = true) (hw : Nat.ble (wt st) 8 = true)
    (k : Ev E M' 0 (eargs 0 as) [] h (ev_K E M pc ls st P)) : Ev E M pc ls st' h P := by
  intro p e R s m args below meth c H locs cells slots lsA ad ad0 h0 hC hL hS
  subst hst
  have hlv : lvS h as := lvS_mem.mpr fun v hv => lvS_mem.mp hS v (List.mem_append_left _ (List.mem_reverse.mpr hv))
  have hSt : lvS h st := lvS_mem.mpr fun v hv => lvS_mem.mp hS v (List.mem_append_right _ hv)
  intro T hT X
  have hcode := mw.1.cw hC.1 hC.wm args
  obtain ⟨mk, methM, cM, hnamed, hmethM, -, -, -, -, -, -, hsigM⟩ := Cond.codeWith_spec hcode
  have hstatic : methM.isStatic = true := Cond.static_spec hnamed hmethM (hC.w mw.2.1 args)
  obtain ⟨kP, hkP, -⟩ := className_of_methodNamed hnamed
  have hinitP : kP.init = .initialized := Cond.initialized_spec (findClass_of_methodNamed hnamed) hkP (hC.w mw.1.2.1 args)
  have hstack : ((as.reverse ++ st).map (cv ad)) = (as.map (cv ad)).reverse ++ st.map (cv ad) := by rw [List.map_append, List.map_reverse]
  obtain ⟨vm₁, X₁, hstep₁⟩ := X.invokestatic hC.ex hC.own (hC.w hl args) hnamed hmethM hstatic hkP hinitP ⟨mw.1.2.2.2.1, mw.1.2.2.2.2.1⟩ (g := F0 m pc lsA ((as.reverse ++ st).map (cv ad))) rfl (argsL := as.map (cv ad)) (rest := st.map (cv ad)) (ev_len mw.2.2.1 (by rw [List.length_map]; exact hn) _ hsigM) hstack (by rw [hC.cd]; exact hd)
  have hB := ev_call (M := M) (M' := M') (as := as) (args := args) hC (by simpa [Nat.blt_eq] using hdp) mw.1 hsg (by rw [hn]; exact mw.2.2.2) hlv k (T := T.setVm vm₁) hT X₁ (g := F0 m pc lsA (st.map (cv ad))) rfl (hL.sz.trans hC.ml.symm) (by rw [hC.cd]; exact hd) (wt8 hw) (X₁.named hnamed)
  obtain ⟨t, a, b⟩ := ev_fin hL hSt rfl hB
  exact ⟨t, hstep₁ _ fun acts => by rw [doInvoke_state]; exact a, b⟩
theorem Ev_callV {as st' : List ev_V} {idx n a i ci : Nat} (hd : decode (mB M) pc = .ok (.invokevirtual idx, 3)) (hst : st' = as.reverse ++ vR a i :: st) (hn : as.length = n) (ha : Nat.blt a 4 = true) (hs : shp a i = (0, ci)) (hci : Nat.blt ci 5 = true) (hcl : (mY M').cls = vNm ci) (hdp : Nat.blt (mD M') (mD M) = true) (mw : vtM M' n) (hl : wd (.methodLink (mY M).cls idx (mY M'))) (hsg : as.all sg = true) (hw : Nat.ble (wt st) 8 = true)
    (k : Ev E M' 0 (eargs 0 (vR a i :: as)) [] h (ev_K E M pc ls st P)) : Ev E M pc ls st' h P := by
  intro p e R s m args below meth c H locs cells slots lsA ad ad0 h0 hC hL hS
  subst hst
  have hr0 : lvV h (vR a i) := lvS_mem.mp hS _ (List.mem_append_right _ List.mem_cons_self)
  have hlv : lvS h (vR a i :: as) := lvS_c hr0 (lvS_mem.mpr fun v hv => lvS_mem.mp hS v (List.mem_append_left _ (List.mem_reverse.mpr hv)))
  have hSt : lvS h st := lvS_mem.mpr fun v hv => lvS_mem.mp hS v (List.mem_append_right _ (List.mem_cons_of_mem _ hv))
  obtain ⟨k4, hi4, hz, q1, q2, q3⟩ := ev_obj hC ha hr0
  have c0 := q3.1 (by rw [hs])
  rw [hs] at c0
  obtain ⟨⟨cell, o1, o2, o3, o4⟩, o5⟩ := c0
  have hfc := (ev_cls hC (ci := ci) (by simpa [Nat.blt_eq] using hci)).2.1
  rw [← hcl, ← o2] at hfc
  intro T hT X
  have hcode := mw.1.cw hC.1 hC.wm args
  obtain ⟨mk, methM, hnamed, hmethM, hstM, habM⟩ := Cond.instanceMethod_spec (hC.w mw.2.1 args)
  obtain ⟨m8, methM', cM, hn8, hmethM', -, -, -, -, -, -, hsigM⟩ := Cond.codeWith_spec hcode
  cases Option.some.inj (hn8.symm.trans hnamed)
  cases hmethM.symm.trans hmethM'
  obtain ⟨c2, r2, m2, p1, p2, p3, p4, kP, hkP, hkPi⟩ := Cond.selects_spec (hC.w mw.2.2.1 args)
  cases hfc.symm.trans p1
  cases (State.methodFound?_of_named hnamed ⟨mw.1.2.2.2.1, mw.1.2.2.2.2.1⟩).symm.trans p2
  cases hnamed.symm.trans p3
  have hselP : selectMethod e.platform s.vm cell.cls mk = .method mk := by rw [Launch.admits_selectMethod X.admits]; exact p4
  have hstack : ((as.reverse ++ vR a i :: st).map (cv ad)) = (as.map (cv ad)).reverse ++ .ref (ad a i) :: st.map (cv ad) := by rw [List.map_append, List.map_reverse, List.map_cons, hz]
  have hargs : (Value.ref (ad a i) :: as.map (cv ad)).toArray = ((vR a i :: as).map (cv ad)).toArray := by rw [List.map_cons, hz]
  obtain ⟨vm₁, X₁, hstep₁⟩ := X.invokevirtual hC.ex hC.own (hC.w hl args) hnamed hmethM hstM hkP hkPi ⟨mw.1.2.2.2.1, mw.1.2.2.2.2.1⟩ (a := ad a i) (cell := cell) (by rw [hT]; exact o1)
    (fun z hq => by rw [o3] at hq; cases hq) hselP hmethM habM hkP hkPi (g := F0 m pc lsA ((as.reverse ++ vR a i :: st).map (cv ad))) rfl (argsL := as.map (cv ad)) (rest := st.map (cv ad)) (ev_len mw.2.2.2.1 (by rw [List.length_map]; exact hn) _ hsigM) hstack (by rw [hC.cd]; exact hd)
  have hB := ev_call (M := M) (M' := M') (as := vR a i :: as) (args := args) hC (by simpa [Nat.blt_eq] using hdp) mw.1 (by rw [List.all_cons, hsg]; rfl) (by rw [List.length_cons, hn]; exact mw.2.2.2.2) hlv k (T := T.setVm vm₁) hT X₁ (g := F0 m pc lsA (st.map (cv ad))) rfl (hL.sz.trans hC.ml.symm) (by rw [hC.cd]; exact hd) (wt8 hw) (X₁.named hnamed)
  obtain ⟨t, a', b⟩ := ev_fin hL hSt rfl hB
  exact ⟨t, hstep₁ _ fun acts => by rw [doInvoke_state, hargs]; exact a', b⟩
theorem Ev_callI {as st' : List ev_V} {idx n a i : Nat} (hd : decode (mB M) pc = .ok (.invokespecial idx, 3)) (hst : st' = as.reverse ++ vR a i :: st) (hn : as.length = n) (ha : Nat.blt a 4 = true) (hdp : Nat.blt (mD M') (mD M) = true) (mw : itM M' n) (hl : wd (.methodLink (mY M).cls idx (mY M'))) (hsg : as.all sg = true) (hw : Nat.ble (wt st) 8 = true)
    (k : Ev E M' 0 (eargs 0 (vR a i :: as)) [] h (ev_K E M pc ls st P)) : Ev E M pc ls st' h P := by
  intro p e R s m args below meth c H locs cells slots lsA ad ad0 h0 hC hL hS
  subst hst
  have hr0 : lvV h (vR a i) := lvS_mem.mp hS _ (List.mem_append_right _ List.mem_cons_self)
  have hlv : lvS h (vR a i :: as) := lvS_c hr0 (lvS_mem.mpr fun v hv => lvS_mem.mp hS v (List.mem_append_left _ (List.mem_reverse.mpr hv)))
  have hSt : lvS h st := lvS_mem.mpr fun v hv => lvS_mem.mp hS v (List.mem_append_right _ (List.mem_cons_of_mem _ hv))
  obtain ⟨k4, hi4, hz, q1, q2, q3⟩ := ev_obj hC ha hr0
  intro T hT X
  have hstack : ((as.reverse ++ vR a i :: st).map (cv ad)) = (as.map (cv ad)).reverse ++ .ref (ad a i) :: st.map (cv ad) := by rw [List.map_append, List.map_reverse, List.map_cons, hz]
  have hargs : (Value.ref (ad a i) :: as.map (cv ad)).toArray = ((vR a i :: as).map (cv ad)).toArray := by rw [List.map_cons, hz]
  obtain ⟨mk, methM, cM, kP, vm₁, hnamed, hmethM, -, -, -, -, hkP, -, hW₁, hstep₁⟩ := Steps.initColdArgs X.here hC.ex X.warmed X.magic hC.own (t := mY M') mw.2.2.2.1 ⟨mw.1.2.2.2.1, mw.1.2.2.2.2.1⟩ (hC.w hl args) (hC.w mw.2.1 args) (hC.w mw.2.2.1 args) (f := F0 m pc lsA ((as.reverse ++ vR a i :: st).map (cv ad))) rfl (ev_len mw.2.2.2.2.1 (by rw [List.length_map]; exact hn)) hstack (by rw [hC.cd]; exact hd)
  have X₁ := X.noted hW₁
  have hB := ev_call (M := M) (M' := M') (as := vR a i :: as) (args := args) hC (by simpa [Nat.blt_eq] using hdp) mw.1 (by rw [List.all_cons, hsg]; rfl) (by rw [List.length_cons, hn]; exact mw.2.2.2.2.2) hlv k (T := T.setVm vm₁) hT X₁ (g := F0 m pc lsA (st.map (cv ad))) rfl (hL.sz.trans hC.ml.symm) (by rw [hC.cd]; exact hd) (wt8 hw) (X₁.named hnamed)
  obtain ⟨t, a', b⟩ := ev_fin hL hSt rfl hB
  exact ⟨t, hstep₁ _ fun acts => by rw [doInvoke_state, hargs]; exact a', b⟩
/-- throw new X("text"): what is needed of the pool -/
def xS (x : Nat) : List String := ["java/lang/RuntimeException", "java/lang/Exception"]
/-- where a constructor has the one above in its pool, and its bytes -/
def xIx (x : Nat) : Nat := cond (Nat.beq x 2) 13 7
def xRx (x : Nat) : ByteArray := cond (Nat.beq x 2) ⟨#[0x2a, 0x2b, 0xb7, 0x00, 0x0d, 0xb1]⟩ ⟨#[0x2a, 0x2b, 0xb7, 0x00, 0x07, 0xb1]⟩
theorem xR0 (x : Nat) : decode (xRx x) 0 = .ok (.aload_n 0, 1) ∧ decode (xRx x) 1 = .ok (.aload_n 1, 1) ∧ decode (xRx x) 2 = .ok (.invokespecial (xIx x), 3) ∧ decode (xRx x) 5 = .ok (.return_, 1) := by
  unfold xRx xIx
  cases Nat.beq x 2
  · exact ⟨by decide +kernel, by decide +kernel, by decide +kernel, by decide +kernel⟩
  · exact ⟨by decide +kernel, by decide +kernel, by decide +kernel, by decide +kernel⟩
def thr (own : String) (ik is ic : Nat) (text : String) (x : Nat) : Prop := x < 5 ∧ wd (.classLink own ik (xN x)) ∧ wd (.initialized (xN x)) ∧ Cond.stringRef own is text ∈ lw_tbl ∧ (∀ w ∈ ev_at own ic (xN x) (xIx x) (xRx x) (xS x), wd w) ∧ Bundle.fit (xN x) = true ∧ (∀ n ∈ xS x, Bundle.fit n = true) ∧ ∀ ty, Cond.arrayOver ty ∉ ev_at own ic (xN x) (xIx x) (xRx x) (xS x)
theorem gw_ot {w : Cond} (hg : gw w = true) (hn : ∀ ty, w ≠ .arrayOver ty) : vx_ot w = true := by
  unfold vx_ot
  by_cases hq : goodWord w = true
  · rw [hq, Bool.or_true]
  · have hn' : goodWord w = false := by simpa using hq
    unfold gw at hg
    rw [hn'] at hg
    cases w with
    | castable C T => rfl
    | declares x => rfl
    | arrayOver ty => exact absurd rfl (hn ty)
    | _ => exact Bool.noConfusion hg
theorem ev_thrown {p : Program} {R : Room} {s : State} {m : MethodId} {below : List Frame} {meth : Method} {c : Code} {H : Heap} {locs : List Loc} {cells slots : Nat} {ad ad0 : Nat → Nat → Nat} {h0 : ev_H} {x : Nat} (hC : ev_C E M p R s m meth c H locs cells slots ad ad0 h h0) (hx5 : x < 5) (hZ : cZ h < ZM) (kk : P (.inr x) (nx h))
    (U : State) (ce : Cell) (u1 : U.status = .running) (u2 : Ended U below (.threw H.size)) (u3 : s.WarmedH U.vm) (u4 : s.sameButNew ({ U with vm := s.vm } : State) locs (cells + 1) (slots + 6)) (u5 : U.heap.size = H.size + 1) (u6 : ∀ q : Nat, q < H.size → U.heap[q]? = H[q]?) (u7 : U.heap[H.size]? = some ce) (u8 : ce.vm = .none) (u9 : s.vm.findClass (xN x) = some ce.cls) : ev_QE E s below ad0 h0 P U := by
  have z1 := hC.2.2.2.1
  have z2 := hC.2.2.2.2.1
  have z3 := hC.2.2.2.2.2.1
  refine ⟨_, u1, u2, .inr x, nx h, ad, u3, ⟨locs, u4.mono (by omega) (by omega), hC.2.2.2.2.2.2.1⟩, hC.2.2.1.thr1 hZ u5 u6, hC.2.2.2.2.2.2.2.tr xt_nx, ⟨hx5, H.size, ce, rfl, u7, u8, u9⟩, kk⟩
theorem Ev_throw {ik is ic x : Nat} {text : String} (d0 : decode (mB M) pc = .ok (.new ik, 3)) (d3 : decode (mB M) (pc + 3) = .ok (.dup, 1)) (d4 : decode (mB M) (pc + 4) = .ok (.ldc is, 2)) (d6 : decode (mB M) (pc + 6) = .ok (.invokespecial ic, 3)) (d9 : decode (mB M) (pc + 9) = .ok (.athrow, 1)) (hm : mH M = []) (hdp : Nat.ble 4 (mD M) = true) (ht : thr (mY M).cls ik is ic text x) (hw : Nat.ble (wt st) 8 = true) (hZ : cZ h < ZM) (kk : P (.inr x) (nx h)) : Ev E M pc ls st h P := by
  intro p e R s m args below meth c H locs cells slots lsA ad ad0 h0 hC hL hS
  obtain ⟨t1, t2, t3, t4, t5, t6, t7, t8⟩ := ht
  obtain ⟨sa, hstr⟩ := hC.1.2.2.2.2.2.2.2.1 _ _ _ t4
  obtain ⟨rc, rs⟩ := ev_room hC hZ (N := 6) (by decide)
  have i9 := hC.wm
  have i10 := hC.2.1.2.2.2.2.2.2.2.2.2.1
  have i12 := hC.2.1.2.2.2.2.2.2.2.2.2.2.2.1
  have i13 := hC.2.1.2.2.2.2.2.2.2.2.2.2.2.2.1
  have hd4 : 4 ≤ mD M := by simpa using hdp
  have hw8 : wt st ≤ 8 := by simpa using hw
  have htab : c.exceptionTable.toList = tableOf (mH M) := hC.2.1.2.2.2.2.2.2.2.1
  refine ev_thrS (A := fun q => eZ E ≤ q) (names := xS x) hC.ex hC.cd hC.1.1 (xR0 x).1 (xR0 x).2.1 (xR0 x).2.2.1 (xR0 x).2.2.2 hC.own t6 t7 (hC.w t2 args) (hC.w t3 args) (vk_R.warm i9 hstr) (fun w hw => hC.w (t5 w hw) args) (fun w hw => ?_) (vx_Zq.moved i9.alike (hC.1.2.2.2.2.2.1.kept fun a _ hA => i10 a (Nat.not_le.mp hA))) (vx_Zq.moved i9.alike (hC.1.2.2.2.2.2.2.1.kept fun a _ hA => i10 a (Nat.not_le.mp hA))) hC.old (hL.sz.trans hC.ml.symm) d0 d3 d4 d6 d9 (fun z hz => by rw [htab, hm] at hz; exact nomatch hz) ?_ ?_ rc rs hC.2.1.2.2.2.2.2.2.1 (fun U ce u1 u2 u3 u4 u5 u6 u7 u8 u9 => ev_thrown hC t1 hZ kk U ce u1 u2 u3 u4 u5 u6 u7 u8 u9)
  · have hg : gw w = true := by
      rcases List.mem_cons.mp hw with rfl | hw
      · exact t2.2
      · rcases List.mem_cons.mp hw with rfl | hw
        · exact t3.2
        · exact (t5 w hw).2
    exact gw_ot hg (fun ty e => by
      subst e
      rcases List.mem_cons.mp hw with z | hw
      · cases z
      · rcases List.mem_cons.mp hw with z | hw
        · cases z
        · exact t8 ty hw)
  · show 2 + 3 < R.frames
    omega
  · rw [cv_wt]
    show wt st + (13 * (2 + 1) + 43) ≤ R.locals
    omega
theorem Ev_throwW {ik is ic x : Nat} {text : String} (d0 : decode (mB M) pc = .ok (.new ik, 3)) (d3 : decode (mB M) (pc + 3) = .ok (.dup, 1)) (d4 : decode (mB M) (pc + 4) = .ok (.ldc_w is, 3)) (d7 : decode (mB M) (pc + 7) = .ok (.invokespecial ic, 3)) (d10 : decode (mB M) (pc + 10) = .ok (.athrow, 1)) (hm : mH M = []) (hdp : Nat.ble 4 (mD M) = true) (ht : thr (mY M).cls ik is ic text x) (hw : Nat.ble (wt st) 8 = true) (hZ : cZ h < ZM) (kk : P (.inr x) (nx h)) : Ev E M pc ls st h P := by
  intro p e R s m args below meth c H locs cells slots lsA ad ad0 h0 hC hL hS
  obtain ⟨t1, t2, t3, t4, t5, t6, t7, t8⟩ := ht
  obtain ⟨sa, hstr⟩ := hC.1.2.2.2.2.2.2.2.1 _ _ _ t4
  obtain ⟨rc, rs⟩ := ev_room hC hZ (N := 6) (by decide)
  have i9 := hC.wm
  have i10 := hC.2.1.2.2.2.2.2.2.2.2.2.1
  have i12 := hC.2.1.2.2.2.2.2.2.2.2.2.2.2.1
  have i13 := hC.2.1.2.2.2.2.2.2.2.2.2.2.2.2.1
  have hd4 : 4 ≤ mD M := by simpa using hdp
  have hw8 : wt st ≤ 8 := by simpa using hw
  have htab : c.exceptionTable.toList = tableOf (mH M) := hC.2.1.2.2.2.2.2.2.2.1
  refine ev_thrW (A := fun q => eZ E ≤ q) (names := xS x) hC.ex hC.cd hC.1.1 (xR0 x).1 (xR0 x).2.1 (xR0 x).2.2.1 (xR0 x).2.2.2 hC.own t6 t7 (hC.w t2 args) (hC.w t3 args) (vk_R.warm i9 hstr) (fun w hw => hC.w (t5 w hw) args) (fun w hw => ?_) (vx_Zq.moved i9.alike (hC.1.2.2.2.2.2.1.kept fun a _ hA => i10 a (Nat.not_le.mp hA))) (vx_Zq.moved i9.alike (hC.1.2.2.2.2.2.2.1.kept fun a _ hA => i10 a (Nat.not_le.mp hA))) hC.old (hL.sz.trans hC.ml.symm) d0 d3 d4 d7 d10 (fun z hz => by rw [htab, hm] at hz; exact nomatch hz) ?_ ?_ rc rs hC.2.1.2.2.2.2.2.2.1 (fun U ce u1 u2 u3 u4 u5 u6 u7 u8 u9 => ev_thrown hC t1 hZ kk U ce u1 u2 u3 u4 u5 u6 u7 u8 u9)
  · have hg : gw w = true := by
      rcases List.mem_cons.mp hw with rfl | hw
      · exact t2.2
      · rcases List.mem_cons.mp hw with rfl | hw
        · exact t3.2
        · exact (t5 w hw).2
    exact gw_ot hg (fun ty e => by
      subst e
      rcases List.mem_cons.mp hw with z | hw
      · cases z
      · rcases List.mem_cons.mp hw with z | hw
        · cases z
        · exact t8 ty hw)
  · show 2 + 3 < R.frames
    omega
  · rw [cv_wt]
    show wt st + (13 * (2 + 1) + 43) ≤ R.locals
    omega
end EvK
end
section
/-! methods: name, bytes, locals, answer, handlers, depth; what a caller needs of them (by program) -/
def M_TB_init : ev_M := (⟨"TypedBlood", "<init>", "()V"⟩, prog_1_method_1_code, 1, none, [], 1)
theorem mc_TB_init : mcw M_TB_init := ⟨Or.inr ⟨rfl, ww_52⟩, ww_32, by decide +kernel, by decide +kernel, by decide +kernel, by decide⟩
theorem i_TB_init : itM M_TB_init 0 := ⟨mc_TB_init, ww_51, ww_52, rfl, by decide +kernel, by decide⟩
def M_TB_pass : ev_M := (⟨"TypedBlood", "pass", "(I)I"⟩, prog_1_method_2_code, 3, some (.int), [], 4)
theorem mc_TB_pass : mcw M_TB_pass := ⟨Or.inr ⟨rfl, ww_109⟩, ww_32, by decide +kernel, by decide +kernel, by decide +kernel, by decide⟩
theorem v_TB_pass : vtM M_TB_pass 1 := ⟨mc_TB_pass, ww_107, ww_108, by decide +kernel, by decide⟩
def M_TB_unit : ev_M := (⟨"TypedBlood", "unit", "(IIIII)I"⟩, prog_1_method_3_code, 6, some (.int), [], 4)
theorem mc_TB_unit : mcw M_TB_unit := ⟨Or.inr ⟨rfl, ww_196⟩, ww_32, by decide +kernel, by decide +kernel, by decide +kernel, by decide⟩
theorem v_TB_unit : vtM M_TB_unit 5 := ⟨mc_TB_unit, ww_194, ww_195, by decide +kernel, by decide⟩
def M_TB_antigen : ev_M := (⟨"TypedBlood", "antigen", "(III)V"⟩, prog_1_method_4_code, 5, none, [], 5)
theorem mc_TB_antigen : mcw M_TB_antigen := ⟨Or.inr ⟨rfl, ww_307⟩, ww_32, by decide +kernel, by decide +kernel, by decide +kernel, by decide⟩
theorem v_TB_antigen : vtM M_TB_antigen 3 := ⟨mc_TB_antigen, ww_305, ww_306, by decide +kernel, by decide⟩
def M_TB_process : ev_M := (⟨"TypedBlood", "process", "(II)I"⟩, prog_1_method_5_code, 4, some (.int), [], 5)
theorem mc_TB_process : mcw M_TB_process := ⟨Or.inr ⟨rfl, ww_341⟩, ww_32, by decide +kernel, by decide +kernel, by decide +kernel, by decide⟩
theorem v_TB_process : vtM M_TB_process 2 := ⟨mc_TB_process, ww_339, ww_340, by decide +kernel, by decide⟩
def M_TB_pool : ev_M := (⟨"TypedBlood", "pool", "(II)I"⟩, prog_1_method_6_code, 5, some (.int), [], 5)
theorem mc_TB_pool : mcw M_TB_pool := ⟨Or.inr ⟨rfl, ww_400⟩, ww_32, by decide +kernel, by decide +kernel, by decide +kernel, by decide⟩
theorem v_TB_pool : vtM M_TB_pool 2 := ⟨mc_TB_pool, ww_398, ww_399, by decide +kernel, by decide⟩
def M_TB_patient : ev_M := (⟨"TypedBlood", "patient", "()I"⟩, prog_1_method_7_code, 1, some (.int), [], 4)
theorem mc_TB_patient : mcw M_TB_patient := ⟨Or.inr ⟨rfl, ww_414⟩, ww_32, by decide +kernel, by decide +kernel, by decide +kernel, by decide⟩
theorem v_TB_patient : vtM M_TB_patient 0 := ⟨mc_TB_patient, ww_412, ww_413, by decide +kernel, by decide⟩
def M_TB_sample : ev_M := (⟨"TypedBlood", "sample", "(III)I"⟩, prog_1_method_8_code, 5, some (.int), [], 5)
theorem mc_TB_sample : mcw M_TB_sample := ⟨Or.inr ⟨rfl, ww_454⟩, ww_32, by decide +kernel, by decide +kernel, by decide +kernel, by decide⟩
theorem v_TB_sample : vtM M_TB_sample 3 := ⟨mc_TB_sample, ww_452, ww_453, by decide +kernel, by decide⟩
def M_TB_unlock : ev_M := (⟨"TypedBlood", "unlock", "(III)V"⟩, prog_1_method_9_code, 5, none, [], 5)
theorem mc_TB_unlock : mcw M_TB_unlock := ⟨Or.inr ⟨rfl, ww_472⟩, ww_32, by decide +kernel, by decide +kernel, by decide +kernel, by decide⟩
theorem v_TB_unlock : vtM M_TB_unlock 3 := ⟨mc_TB_unlock, ww_470, ww_471, by decide +kernel, by decide⟩
def M_TB_antibody : ev_M := (⟨"TypedBlood", "antibody", "(II)I"⟩, prog_1_method_10_code, 4, some (.int), [], 5)
theorem mc_TB_antibody : mcw M_TB_antibody := ⟨Or.inr ⟨rfl, ww_484⟩, ww_32, by decide +kernel, by decide +kernel, by decide +kernel, by decide⟩
theorem v_TB_antibody : vtM M_TB_antibody 2 := ⟨mc_TB_antibody, ww_482, ww_483, by decide +kernel, by decide⟩
def M_TB_need : ev_M := (⟨"TypedBlood", "need", "(II)I"⟩, prog_1_method_11_code, 5, some (.int), [], 5)
theorem mc_TB_need : mcw M_TB_need := ⟨Or.inr ⟨rfl, ww_498⟩, ww_32, by decide +kernel, by decide +kernel, by decide +kernel, by decide⟩
theorem v_TB_need : vtM M_TB_need 2 := ⟨mc_TB_need, ww_496, ww_497, by decide +kernel, by decide⟩
def M_TB_crossmatch : ev_M := (⟨"TypedBlood", "crossmatch", "(IIZ)V"⟩, prog_1_method_12_code, 6, none, [], 5)
theorem mc_TB_crossmatch : mcw M_TB_crossmatch := ⟨Or.inr ⟨rfl, ww_506⟩, ww_32, by decide +kernel, by decide +kernel, by decide +kernel, by decide⟩
theorem v_TB_crossmatch : vtM M_TB_crossmatch 3 := ⟨mc_TB_crossmatch, ww_504, ww_505, by decide +kernel, by decide⟩
def M_TB_reserve : ev_M := (⟨"TypedBlood", "reserve", "(II)I"⟩, prog_1_method_13_code, 5, some (.int), [], 5)
theorem mc_TB_reserve : mcw M_TB_reserve := ⟨Or.inr ⟨rfl, ww_523⟩, ww_32, by decide +kernel, by decide +kernel, by decide +kernel, by decide⟩
theorem v_TB_reserve : vtM M_TB_reserve 2 := ⟨mc_TB_reserve, ww_521, ww_522, by decide +kernel, by decide⟩
def M_TB_release : ev_M := (⟨"TypedBlood", "release", "(I)I"⟩, prog_1_method_14_code, 4, some (.int), [], 5)
theorem mc_TB_release : mcw M_TB_release := ⟨Or.inr ⟨rfl, ww_558⟩, ww_32, by decide +kernel, by decide +kernel, by decide +kernel, by decide⟩
theorem v_TB_release : vtM M_TB_release 1 := ⟨mc_TB_release, ww_556, ww_557, by decide +kernel, by decide⟩
def M_TB_issue : ev_M := (⟨"TypedBlood", "issue", "(II)I"⟩, prog_1_method_15_code, 5, some (.int), [], 5)
theorem mc_TB_issue : mcw M_TB_issue := ⟨Or.inr ⟨rfl, ww_567⟩, ww_32, by decide +kernel, by decide +kernel, by decide +kernel, by decide⟩
theorem v_TB_issue : vtM M_TB_issue 2 := ⟨mc_TB_issue, ww_565, ww_566, by decide +kernel, by decide⟩
def M_TB_emergency : ev_M := (⟨"TypedBlood", "emergency", "(III)I"⟩, prog_1_method_16_code, 6, some (.int), [], 5)
theorem mc_TB_emergency : mcw M_TB_emergency := ⟨Or.inr ⟨rfl, ww_595⟩, ww_32, by decide +kernel, by decide +kernel, by decide +kernel, by decide⟩
theorem v_TB_emergency : vtM M_TB_emergency 3 := ⟨mc_TB_emergency, ww_593, ww_594, by decide +kernel, by decide⟩
def M_TB_giveBack : ev_M := (⟨"TypedBlood", "giveBack", "(I)I"⟩, prog_1_method_17_code, 4, some (.int), [], 5)
theorem mc_TB_giveBack : mcw M_TB_giveBack := ⟨Or.inr ⟨rfl, ww_608⟩, ww_32, by decide +kernel, by decide +kernel, by decide +kernel, by decide⟩
theorem v_TB_giveBack : vtM M_TB_giveBack 1 := ⟨mc_TB_giveBack, ww_606, ww_607, by decide +kernel, by decide⟩
def M_TB_transfused : ev_M := (⟨"TypedBlood", "transfused", "(I)I"⟩, prog_1_method_18_code, 3, some (.int), [], 5)
theorem mc_TB_transfused : mcw M_TB_transfused := ⟨Or.inr ⟨rfl, ww_616⟩, ww_32, by decide +kernel, by decide +kernel, by decide +kernel, by decide⟩
theorem v_TB_transfused : vtM M_TB_transfused 1 := ⟨mc_TB_transfused, ww_614, ww_615, by decide +kernel, by decide⟩
def M_TB_discard : ev_M := (⟨"TypedBlood", "discard", "(II)I"⟩, prog_1_method_19_code, 5, some (.int), [], 5)
theorem mc_TB_discard : mcw M_TB_discard := ⟨Or.inr ⟨rfl, ww_624⟩, ww_32, by decide +kernel, by decide +kernel, by decide +kernel, by decide⟩
theorem v_TB_discard : vtM M_TB_discard 2 := ⟨mc_TB_discard, ww_622, ww_623, by decide +kernel, by decide⟩
def M_TB_quarantine : ev_M := (⟨"TypedBlood", "quarantine", "(IZ)I"⟩, prog_1_method_20_code, 6, some (.int), [], 4)
theorem mc_TB_quarantine : mcw M_TB_quarantine := ⟨Or.inr ⟨rfl, ww_637⟩, ww_32, by decide +kernel, by decide +kernel, by decide +kernel, by decide⟩
theorem v_TB_quarantine : vtM M_TB_quarantine 2 := ⟨mc_TB_quarantine, ww_635, ww_636, by decide +kernel, by decide⟩
def M_TB_of : ev_M := (⟨"TypedBlood", "of", "(II)I"⟩, prog_1_method_21_code, 4, some (.int), [], 5)
theorem mc_TB_of : mcw M_TB_of := ⟨Or.inr ⟨rfl, ww_646⟩, ww_32, by decide +kernel, by decide +kernel, by decide +kernel, by decide⟩
theorem v_TB_of : vtM M_TB_of 2 := ⟨mc_TB_of, ww_644, ww_645, by decide +kernel, by decide⟩
def M_TB_has : ev_M := (⟨"TypedBlood", "has", "(II)I"⟩, prog_1_method_22_code, 4, some (.int), [], 5)
theorem mc_TB_has : mcw M_TB_has := ⟨Or.inr ⟨rfl, ww_669⟩, ww_32, by decide +kernel, by decide +kernel, by decide +kernel, by decide⟩
theorem v_TB_has : vtM M_TB_has 2 := ⟨mc_TB_has, ww_667, ww_668, by decide +kernel, by decide⟩
def M_TB_who : ev_M := (⟨"TypedBlood", "who", "(II)I"⟩, prog_1_method_23_code, 4, some (.int), [], 5)
theorem mc_TB_who : mcw M_TB_who := ⟨Or.inr ⟨rfl, ww_680⟩, ww_32, by decide +kernel, by decide +kernel, by decide +kernel, by decide⟩
theorem v_TB_who : vtM M_TB_who 2 := ⟨mc_TB_who, ww_678, ww_679, by decide +kernel, by decide⟩
def M_TB_why : ev_M := (⟨"TypedBlood", "why", "(II)I"⟩, prog_1_method_24_code, 5, some (.int), [], 5)
theorem mc_TB_why : mcw M_TB_why := ⟨Or.inr ⟨rfl, ww_687⟩, ww_32, by decide +kernel, by decide +kernel, by decide +kernel, by decide⟩
theorem v_TB_why : vtM M_TB_why 2 := ⟨mc_TB_why, ww_685, ww_686, by decide +kernel, by decide⟩
def M_TB_offer : ev_M := (⟨"TypedBlood", "offer", "(III)I"⟩, prog_1_method_25_code, 7, some (.int), [], 5)
theorem mc_TB_offer : mcw M_TB_offer := ⟨Or.inr ⟨rfl, ww_694⟩, ww_32, by decide +kernel, by decide +kernel, by decide +kernel, by decide⟩
theorem v_TB_offer : vtM M_TB_offer 3 := ⟨mc_TB_offer, ww_692, ww_693, by decide +kernel, by decide⟩
def M_TB_stock : ev_M := (⟨"TypedBlood", "stock", "(III)I"⟩, prog_1_method_26_code, 9, some (.int), [], 4)
theorem mc_TB_stock : mcw M_TB_stock := ⟨Or.inr ⟨rfl, ww_714⟩, ww_32, by decide +kernel, by decide +kernel, by decide +kernel, by decide⟩
theorem v_TB_stock : vtM M_TB_stock 3 := ⟨mc_TB_stock, ww_712, ww_713, by decide +kernel, by decide⟩
def M_TB_expiring : ev_M := (⟨"TypedBlood", "expiring", "(II)I"⟩, prog_1_method_27_code, 5, some (.int), [], 4)
theorem mc_TB_expiring : mcw M_TB_expiring := ⟨Or.inr ⟨rfl, ww_722⟩, ww_32, by decide +kernel, by decide +kernel, by decide +kernel, by decide⟩
theorem v_TB_expiring : vtM M_TB_expiring 2 := ⟨mc_TB_expiring, ww_720, ww_721, by decide +kernel, by decide⟩
def M_TB_lookback : ev_M := (⟨"TypedBlood", "lookback", "(II)I"⟩, prog_1_method_28_code, 5, some (.int), [], 4)
theorem mc_TB_lookback : mcw M_TB_lookback := ⟨Or.inr ⟨rfl, ww_730⟩, ww_32, by decide +kernel, by decide +kernel, by decide +kernel, by decide⟩
theorem v_TB_lookback : vtM M_TB_lookback 2 := ⟨mc_TB_lookback, ww_728, ww_729, by decide +kernel, by decide⟩
def M_TB_received : ev_M := (⟨"TypedBlood", "received", "(II)I"⟩, prog_1_method_29_code, 4, some (.int), [], 5)
theorem mc_TB_received : mcw M_TB_received := ⟨Or.inr ⟨rfl, ww_741⟩, ww_32, by decide +kernel, by decide +kernel, by decide +kernel, by decide⟩
theorem v_TB_received : vtM M_TB_received 2 := ⟨mc_TB_received, ww_739, ww_740, by decide +kernel, by decide⟩
def M_TB_count : ev_M := (⟨"TypedBlood", "count", "(II)I"⟩, prog_1_method_30_code, 5, some (.int), [], 4)
theorem mc_TB_count : mcw M_TB_count := ⟨Or.inr ⟨rfl, ww_748⟩, ww_32, by decide +kernel, by decide +kernel, by decide +kernel, by decide⟩
theorem v_TB_count : vtM M_TB_count 2 := ⟨mc_TB_count, ww_746, ww_747, by decide +kernel, by decide⟩
def M_TB_isBelow : ev_M := (⟨"TypedBlood", "isBelow", "(II)Z"⟩, prog_1_method_31_code, 2, some (.boolean), [], 0)
theorem mc_TB_isBelow : mcw M_TB_isBelow := ⟨Or.inr ⟨rfl, ww_199⟩, ww_32, by decide +kernel, by decide +kernel, by decide +kernel, by decide⟩
theorem s_TB_isBelow : stM M_TB_isBelow 2 := ⟨mc_TB_isBelow, ww_198, by decide +kernel, by decide⟩
def M_TB_isBloodType : ev_M := (⟨"TypedBlood", "isBloodType", "(II)Z"⟩, prog_1_method_32_code, 2, some (.boolean), [], 1)
theorem mc_TB_isBloodType : mcw M_TB_isBloodType := ⟨Or.inr ⟨rfl, ww_202⟩, ww_32, by decide +kernel, by decide +kernel, by decide +kernel, by decide⟩
theorem s_TB_isBloodType : stM M_TB_isBloodType 2 := ⟨mc_TB_isBloodType, ww_201, by decide +kernel, by decide⟩
def M_TB_unitAt : ev_M := (⟨"TypedBlood", "unitAt", "(I)LTypedBlood$Unit;"⟩, prog_1_method_33_code, 2, some (.object "TypedBlood$Unit"), [], 4)
theorem mc_TB_unitAt : mcw M_TB_unitAt := ⟨Or.inr ⟨rfl, ww_311⟩, ww_32, by decide +kernel, by decide +kernel, by decide +kernel, by decide⟩
theorem v_TB_unitAt : vtM M_TB_unitAt 1 := ⟨mc_TB_unitAt, ww_310, ww_3, by decide +kernel, by decide⟩
def M_TB_patientAt : ev_M := (⟨"TypedBlood", "patientAt", "(I)LTypedBlood$Patient;"⟩, prog_1_method_34_code, 2, some (.object "TypedBlood$Patient"), [], 4)
theorem mc_TB_patientAt : mcw M_TB_patientAt := ⟨Or.inr ⟨rfl, ww_458⟩, ww_32, by decide +kernel, by decide +kernel, by decide +kernel, by decide⟩
theorem v_TB_patientAt : vtM M_TB_patientAt 1 := ⟨mc_TB_patientAt, ww_457, ww_9, by decide +kernel, by decide⟩
def M_TB_hasRoomFor : ev_M := (⟨"TypedBlood", "hasRoomFor", "(I)Z"⟩, prog_1_method_35_code, 2, some (.boolean), [], 0)
theorem mc_TB_hasRoomFor : mcw M_TB_hasRoomFor := ⟨Or.inr ⟨rfl, ww_209⟩, ww_32, by decide +kernel, by decide +kernel, by decide +kernel, by decide⟩
theorem v_TB_hasRoomFor : vtM M_TB_hasRoomFor 1 := ⟨mc_TB_hasRoomFor, ww_208, ww_1, by decide +kernel, by decide⟩
def M_TB_isReady : ev_M := (⟨"TypedBlood", "isReady", "(LTypedBlood$Unit;)Z"⟩, prog_1_method_36_code, 2, some (.boolean), [], 2)
theorem mc_TB_isReady : mcw M_TB_isReady := ⟨Or.inr ⟨rfl, ww_346⟩, ww_32, by decide +kernel, by decide +kernel, by decide +kernel, by decide⟩
theorem v_TB_isReady : vtM M_TB_isReady 1 := ⟨mc_TB_isReady, ww_345, ww_4, by decide +kernel, by decide⟩
def M_TB_isUsable : ev_M := (⟨"TypedBlood", "isUsable", "(LTypedBlood$Unit;)Z"⟩, prog_1_method_37_code, 2, some (.boolean), [], 1)
theorem mc_TB_isUsable : mcw M_TB_isUsable := ⟨Or.inr ⟨rfl, ww_350⟩, ww_32, by decide +kernel, by decide +kernel, by decide +kernel, by decide⟩
theorem v_TB_isUsable : vtM M_TB_isUsable 1 := ⟨mc_TB_isUsable, ww_349, ww_5, by decide +kernel, by decide⟩
def M_TB_mayLeaveFor : ev_M := (⟨"TypedBlood", "mayLeaveFor", "(ILTypedBlood$Unit;)Z"⟩, prog_1_method_38_code, 4, some (.boolean), [], 2)
theorem mc_TB_mayLeaveFor : mcw M_TB_mayLeaveFor := ⟨Or.inr ⟨rfl, ww_571⟩, ww_32, by decide +kernel, by decide +kernel, by decide +kernel, by decide⟩
theorem v_TB_mayLeaveFor : vtM M_TB_mayLeaveFor 2 := ⟨mc_TB_mayLeaveFor, ww_570, ww_11, by decide +kernel, by decide⟩
def M_TB_isCleared : ev_M := (⟨"TypedBlood", "isCleared", "(LTypedBlood$Patient;LTypedBlood$Unit;I)Z"⟩, prog_1_method_39_code, 5, some (.boolean), [], 3)
theorem mc_TB_isCleared : mcw M_TB_isCleared := ⟨Or.inr ⟨rfl, ww_528⟩, ww_32, by decide +kernel, by decide +kernel, by decide +kernel, by decide⟩
theorem v_TB_isCleared : vtM M_TB_isCleared 3 := ⟨mc_TB_isCleared, ww_527, ww_10, by decide +kernel, by decide⟩
def M_TB_handOver : ev_M := (⟨"TypedBlood", "handOver", "(LTypedBlood$Unit;II)I"⟩, prog_1_method_40_code, 6, some (.int), [], 1)
theorem mc_TB_handOver : mcw M_TB_handOver := ⟨Or.inr ⟨rfl, ww_580⟩, ww_32, by decide +kernel, by decide +kernel, by decide +kernel, by decide⟩
theorem v_TB_handOver : vtM M_TB_handOver 3 := ⟨mc_TB_handOver, ww_579, ww_12, by decide +kernel, by decide⟩
def M_TB_firstIssue : ev_M := (⟨"TypedBlood", "firstIssue", "(II)I"⟩, prog_1_method_41_code, 6, some (.int), [], 1)
theorem mc_TB_firstIssue : mcw M_TB_firstIssue := ⟨Or.inr ⟨rfl, ww_734⟩, ww_32, by decide +kernel, by decide +kernel, by decide +kernel, by decide⟩
theorem v_TB_firstIssue : vtM M_TB_firstIssue 2 := ⟨mc_TB_firstIssue, ww_733, ww_13, by decide +kernel, by decide⟩
def M_TB_suits : ev_M := (⟨"TypedBlood", "suits", "(II)Z"⟩, prog_1_method_42_code, 2, some (.boolean), [], 0)
theorem mc_TB_suits : mcw M_TB_suits := ⟨Or.inr ⟨rfl, ww_362⟩, ww_32, by decide +kernel, by decide +kernel, by decide +kernel, by decide⟩
theorem s_TB_suits : stM M_TB_suits 2 := ⟨mc_TB_suits, ww_361, by decide +kernel, by decide⟩
def M_TB_keepSplitProducts : ev_M := (⟨"TypedBlood", "keepSplitProducts", "(LTypedBlood$Unit;)I"⟩, prog_1_method_43_code, 3, some (.int), [], 2)
theorem mc_TB_keepSplitProducts : mcw M_TB_keepSplitProducts := ⟨Or.inr ⟨rfl, ww_382⟩, ww_32, by decide +kernel, by decide +kernel, by decide +kernel, by decide⟩
theorem v_TB_keepSplitProducts : vtM M_TB_keepSplitProducts 1 := ⟨mc_TB_keepSplitProducts, ww_381, ww_6, by decide +kernel, by decide⟩
def M_TB_keepProduct : ev_M := (⟨"TypedBlood", "keepProduct", "(LTypedBlood$Unit;III)I"⟩, prog_1_method_44_code, 7, some (.int), [], 1)
theorem mc_TB_keepProduct : mcw M_TB_keepProduct := ⟨Or.inr ⟨rfl, ww_386⟩, ww_32, by decide +kernel, by decide +kernel, by decide +kernel, by decide⟩
theorem v_TB_keepProduct : vtM M_TB_keepProduct 4 := ⟨mc_TB_keepProduct, ww_385, ww_7, by decide +kernel, by decide⟩
def M_TB_keepPooled : ev_M := (⟨"TypedBlood", "keepPooled", "(LTypedBlood$Unit;LTypedBlood$Unit;)I"⟩, prog_1_method_45_code, 5, some (.int), [], 1)
theorem mc_TB_keepPooled : mcw M_TB_keepPooled := ⟨Or.inr ⟨rfl, ww_407⟩, ww_32, by decide +kernel, by decide +kernel, by decide +kernel, by decide⟩
theorem v_TB_keepPooled : vtM M_TB_keepPooled 2 := ⟨mc_TB_keepPooled, ww_406, ww_8, by decide +kernel, by decide⟩
def M_TB_keep : ev_M := (⟨"TypedBlood", "keep", "(LTypedBlood$Unit;)I"⟩, prog_1_method_46_code, 2, some (.int), [], 0)
theorem mc_TB_keep : mcw M_TB_keep := ⟨Or.inr ⟨rfl, ww_299⟩, ww_32, by decide +kernel, by decide +kernel, by decide +kernel, by decide⟩
theorem v_TB_keep : vtM M_TB_keep 1 := ⟨mc_TB_keep, ww_298, ww_2, by decide +kernel, by decide⟩
def M_UN_init : ev_M := (⟨"TypedBlood$Unit", "<init>", "(IIIII)V"⟩, prog_5_method_1_code, 6, none, [], 0)
theorem mc_UN_init : mcw M_UN_init := ⟨Or.inr ⟨rfl, ww_229⟩, ww_40, by decide +kernel, by decide +kernel, by decide +kernel, by decide⟩
theorem i_UN_init : itM M_UN_init 5 := ⟨mc_UN_init, ww_228, ww_229, rfl, by decide +kernel, by decide⟩
def M_UN_isExpired : ev_M := (⟨"TypedBlood$Unit", "isExpired", "(I)Z"⟩, prog_5_method_2_code, 2, some (.boolean), [], 0)
theorem mc_UN_isExpired : mcw M_UN_isExpired := ⟨Or.inr ⟨rfl, ww_354⟩, ww_40, by decide +kernel, by decide +kernel, by decide +kernel, by decide⟩
theorem v_UN_isExpired : vtM M_UN_isExpired 1 := ⟨mc_UN_isExpired, ww_352, ww_353, by decide +kernel, by decide⟩
def M_UN_isBarred : ev_M := (⟨"TypedBlood$Unit", "isBarred", "(I)Z"⟩, prog_5_method_3_code, 2, some (.boolean), [], 0)
theorem mc_UN_isBarred : mcw M_UN_isBarred := ⟨Or.inr ⟨rfl, ww_358⟩, ww_40, by decide +kernel, by decide +kernel, by decide +kernel, by decide⟩
theorem v_UN_isBarred : vtM M_UN_isBarred 1 := ⟨mc_UN_isBarred, ww_356, ww_357, by decide +kernel, by decide⟩
def M_UN_isInHouse : ev_M := (⟨"TypedBlood$Unit", "isInHouse", "()Z"⟩, prog_5_method_4_code, 1, some (.boolean), [], 0)
theorem mc_UN_isInHouse : mcw M_UN_isInHouse := ⟨Or.inr ⟨rfl, ww_510⟩, ww_40, by decide +kernel, by decide +kernel, by decide +kernel, by decide⟩
theorem v_UN_isInHouse : vtM M_UN_isInHouse 0 := ⟨mc_UN_isInHouse, ww_508, ww_509, by decide +kernel, by decide⟩
def M_UN_isForEmergencies : ev_M := (⟨"TypedBlood$Unit", "isForEmergencies", "()Z"⟩, prog_5_method_5_code, 1, some (.boolean), [], 0)
theorem mc_UN_isForEmergencies : mcw M_UN_isForEmergencies := ⟨Or.inr ⟨rfl, ww_600⟩, ww_40, by decide +kernel, by decide +kernel, by decide +kernel, by decide⟩
theorem v_UN_isForEmergencies : vtM M_UN_isForEmergencies 0 := ⟨mc_UN_isForEmergencies, ww_598, ww_599, by decide +kernel, by decide⟩
def M_UN_wentTo : ev_M := (⟨"TypedBlood$Unit", "wentTo", "(I)Z"⟩, prog_5_method_6_code, 2, some (.boolean), [], 0)
theorem mc_UN_wentTo : mcw M_UN_wentTo := ⟨Or.inr ⟨rfl, ww_588⟩, ww_40, by decide +kernel, by decide +kernel, by decide +kernel, by decide⟩
theorem v_UN_wentTo : vtM M_UN_wentTo 1 := ⟨mc_UN_wentTo, ww_586, ww_587, by decide +kernel, by decide⟩
def M_UN_antigenValue : ev_M := (⟨"TypedBlood$Unit", "antigenValue", "(I)I"⟩, prog_5_method_7_code, 3, some (.int), [], 0)
theorem mc_UN_antigenValue : mcw M_UN_antigenValue := ⟨Or.inr ⟨rfl, ww_673⟩, ww_40, by decide +kernel, by decide +kernel, by decide +kernel, by decide⟩
theorem v_UN_antigenValue : vtM M_UN_antigenValue 1 := ⟨mc_UN_antigenValue, ww_671, ww_672, by decide +kernel, by decide⟩
def M_UN_setAntigen : ev_M := (⟨"TypedBlood$Unit", "setAntigen", "(II)V"⟩, prog_5_method_8_code, 4, none, [], 0)
theorem mc_UN_setAntigen : mcw M_UN_setAntigen := ⟨Or.inr ⟨rfl, ww_333⟩, ww_40, by decide +kernel, by decide +kernel, by decide +kernel, by decide⟩
theorem v_UN_setAntigen : vtM M_UN_setAntigen 2 := ⟨mc_UN_setAntigen, ww_331, ww_332, by decide +kernel, by decide⟩
def M_UN_reserveFor : ev_M := (⟨"TypedBlood$Unit", "reserveFor", "(II)V"⟩, prog_5_method_9_code, 3, none, [], 0)
theorem mc_UN_reserveFor : mcw M_UN_reserveFor := ⟨Or.inr ⟨rfl, ww_551⟩, ww_40, by decide +kernel, by decide +kernel, by decide +kernel, by decide⟩
theorem v_UN_reserveFor : vtM M_UN_reserveFor 2 := ⟨mc_UN_reserveFor, ww_549, ww_550, by decide +kernel, by decide⟩
def M_UN_endReservationWhenOver : ev_M := (⟨"TypedBlood$Unit", "endReservationWhenOver", "(I)V"⟩, prog_5_method_10_code, 2, none, [], 1)
theorem mc_UN_endReservationWhenOver : mcw M_UN_endReservationWhenOver := ⟨Or.inr ⟨rfl, ww_184⟩, ww_40, by decide +kernel, by decide +kernel, by decide +kernel, by decide⟩
theorem v_UN_endReservationWhenOver : vtM M_UN_endReservationWhenOver 1 := ⟨mc_UN_endReservationWhenOver, ww_182, ww_183, by decide +kernel, by decide⟩
def M_UN_store : ev_M := (⟨"TypedBlood$Unit", "store", "()V"⟩, prog_5_method_11_code, 1, none, [], 0)
theorem mc_UN_store : mcw M_UN_store := ⟨Or.inr ⟨rfl, ww_188⟩, ww_40, by decide +kernel, by decide +kernel, by decide +kernel, by decide⟩
theorem v_UN_store : vtM M_UN_store 0 := ⟨mc_UN_store, ww_186, ww_187, by decide +kernel, by decide⟩
def M_UN_issueTo : ev_M := (⟨"TypedBlood$Unit", "issueTo", "(IIII)V"⟩, prog_5_method_12_code, 5, none, [], 0)
theorem mc_UN_issueTo : mcw M_UN_issueTo := ⟨Or.inr ⟨rfl, ww_584⟩, ww_40, by decide +kernel, by decide +kernel, by decide +kernel, by decide⟩
theorem v_UN_issueTo : vtM M_UN_issueTo 4 := ⟨mc_UN_issueTo, ww_582, ww_583, by decide +kernel, by decide⟩
def M_UN_throwAway : ev_M := (⟨"TypedBlood$Unit", "throwAway", "(I)V"⟩, prog_5_method_13_code, 2, none, [], 0)
theorem mc_UN_throwAway : mcw M_UN_throwAway := ⟨Or.inr ⟨rfl, ww_630⟩, ww_40, by decide +kernel, by decide +kernel, by decide +kernel, by decide⟩
theorem v_UN_throwAway : vtM M_UN_throwAway 1 := ⟨mc_UN_throwAway, ww_628, ww_629, by decide +kernel, by decide⟩
def M_PA_init : ev_M := (⟨"TypedBlood$Patient", "<init>", "()V"⟩, prog_2_method_1_code, 2, none, [], 0)
theorem mc_PA_init : mcw M_PA_init := ⟨Or.inr ⟨rfl, ww_419⟩, ww_44, by decide +kernel, by decide +kernel, by decide +kernel, by decide⟩
theorem i_PA_init : itM M_PA_init 0 := ⟨mc_PA_init, ww_418, ww_419, rfl, by decide +kernel, by decide⟩
def M_PA_takeSample : ev_M := (⟨"TypedBlood$Patient", "takeSample", "(III)V"⟩, prog_2_method_2_code, 4, none, [], 0)
theorem mc_PA_takeSample : mcw M_PA_takeSample := ⟨Or.inr ⟨rfl, ww_465⟩, ww_44, by decide +kernel, by decide +kernel, by decide +kernel, by decide⟩
theorem v_PA_takeSample : vtM M_PA_takeSample 3 := ⟨mc_PA_takeSample, ww_463, ww_464, by decide +kernel, by decide⟩
def M_PA_confirm : ev_M := (⟨"TypedBlood$Patient", "confirm", "(II)V"⟩, prog_2_method_3_code, 3, none, [], 0)
theorem mc_PA_confirm : mcw M_PA_confirm := ⟨Or.inr ⟨rfl, ww_477⟩, ww_44, by decide +kernel, by decide +kernel, by decide +kernel, by decide⟩
theorem v_PA_confirm : vtM M_PA_confirm 2 := ⟨mc_PA_confirm, ww_475, ww_476, by decide +kernel, by decide⟩
def M_PA_hasFreshSample : ev_M := (⟨"TypedBlood$Patient", "hasFreshSample", "(I)Z"⟩, prog_2_method_4_code, 2, some (.boolean), [], 0)
theorem mc_PA_hasFreshSample : mcw M_PA_hasFreshSample := ⟨Or.inr ⟨rfl, ww_575⟩, ww_44, by decide +kernel, by decide +kernel, by decide +kernel, by decide⟩
theorem v_PA_hasFreshSample : vtM M_PA_hasFreshSample 1 := ⟨mc_PA_hasFreshSample, ww_573, ww_574, by decide +kernel, by decide⟩
def M_PA_noteCrossmatch : ev_M := (⟨"TypedBlood$Patient", "noteCrossmatch", "(II)V"⟩, prog_2_method_5_code, 3, none, [], 0)
theorem mc_PA_noteCrossmatch : mcw M_PA_noteCrossmatch := ⟨Or.inr ⟨rfl, ww_516⟩, ww_44, by decide +kernel, by decide +kernel, by decide +kernel, by decide⟩
theorem v_PA_noteCrossmatch : vtM M_PA_noteCrossmatch 2 := ⟨mc_PA_noteCrossmatch, ww_514, ww_515, by decide +kernel, by decide⟩
def M_PA_hasValidCrossmatch : ev_M := (⟨"TypedBlood$Patient", "hasValidCrossmatch", "(II)Z"⟩, prog_2_method_6_code, 3, some (.boolean), [], 0)
theorem mc_PA_hasValidCrossmatch : mcw M_PA_hasValidCrossmatch := ⟨Or.inr ⟨rfl, ww_532⟩, ww_44, by decide +kernel, by decide +kernel, by decide +kernel, by decide⟩
theorem v_PA_hasValidCrossmatch : vtM M_PA_hasValidCrossmatch 2 := ⟨mc_PA_hasValidCrossmatch, ww_530, ww_531, by decide +kernel, by decide⟩
def M_PA_groupOr : ev_M := (⟨"TypedBlood$Patient", "groupOr", "(I)I"⟩, prog_2_method_7_code, 2, some (.int), [], 0)
theorem mc_PA_groupOr : mcw M_PA_groupOr := ⟨Or.inr ⟨rfl, ww_542⟩, ww_44, by decide +kernel, by decide +kernel, by decide +kernel, by decide⟩
theorem v_PA_groupOr : vtM M_PA_groupOr 1 := ⟨mc_PA_groupOr, ww_540, ww_541, by decide +kernel, by decide⟩
def M_PA_isConfirmedWithRhesus : ev_M := (⟨"TypedBlood$Patient", "isConfirmedWithRhesus", "()Z"⟩, prog_2_method_8_code, 1, some (.boolean), [], 0)
theorem mc_PA_isConfirmedWithRhesus : mcw M_PA_isConfirmedWithRhesus := ⟨Or.inr ⟨rfl, ww_546⟩, ww_44, by decide +kernel, by decide +kernel, by decide +kernel, by decide⟩
theorem v_PA_isConfirmedWithRhesus : vtM M_PA_isConfirmedWithRhesus 0 := ⟨mc_PA_isConfirmedWithRhesus, ww_544, ww_545, by decide +kernel, by decide⟩
def M_RU_reason : ev_M := (⟨"TypedBlood$Rules", "reason", "(LTypedBlood$Patient;LTypedBlood$Unit;)I"⟩, prog_4_method_2_code, 2, some (.int), [], 2)
theorem mc_RU_reason : mcw M_RU_reason := ⟨Or.inr ⟨rfl, ww_535⟩, ww_46, by decide +kernel, by decide +kernel, by decide +kernel, by decide⟩
theorem s_RU_reason : stM M_RU_reason 2 := ⟨mc_RU_reason, ww_534, by decide +kernel, by decide⟩
def M_RU_groupFits : ev_M := (⟨"TypedBlood$Rules", "groupFits", "(LTypedBlood$Patient;LTypedBlood$Unit;)Z"⟩, prog_4_method_3_code, 2, some (.boolean), [], 1)
theorem mc_RU_groupFits : mcw M_RU_groupFits := ⟨Or.inr ⟨rfl, ww_538⟩, ww_46, by decide +kernel, by decide +kernel, by decide +kernel, by decide⟩
theorem s_RU_groupFits : stM M_RU_groupFits 2 := ⟨mc_RU_groupFits, ww_537, by decide +kernel, by decide⟩
def M_RK_init : ev_M := (⟨"TypedBlood$Ranking", "<init>", "(I)V"⟩, prog_3_method_1_code, 2, none, [], 0)
theorem mc_RK_init : mcw M_RK_init := ⟨Or.inr ⟨rfl, ww_64⟩, ww_33, by decide +kernel, by decide +kernel, by decide +kernel, by decide⟩
theorem i_RK_init : itM M_RK_init 1 := ⟨mc_RK_init, ww_63, ww_64, rfl, by decide +kernel, by decide⟩
def M_RK_empty : ev_M := (⟨"TypedBlood$Ranking", "empty", "()V"⟩, prog_3_method_2_code, 1, none, [], 0)
theorem mc_RK_empty : mcw M_RK_empty := ⟨Or.inr ⟨rfl, ww_699⟩, ww_33, by decide +kernel, by decide +kernel, by decide +kernel, by decide⟩
theorem v_RK_empty : vtM M_RK_empty 0 := ⟨mc_RK_empty, ww_697, ww_698, by decide +kernel, by decide⟩
def M_RK_insert : ev_M := (⟨"TypedBlood$Ranking", "insert", "(II)V"⟩, prog_3_method_3_code, 4, none, [], 0)
theorem mc_RK_insert : mcw M_RK_insert := ⟨Or.inr ⟨rfl, ww_703⟩, ww_33, by decide +kernel, by decide +kernel, by decide +kernel, by decide⟩
theorem v_RK_insert : vtM M_RK_insert 2 := ⟨mc_RK_insert, ww_701, ww_702, by decide +kernel, by decide⟩
def M_RK_at : ev_M := (⟨"TypedBlood$Ranking", "at", "(I)I"⟩, prog_3_method_4_code, 2, some (.int), [], 0)
theorem mc_RK_at : mcw M_RK_at := ⟨Or.inr ⟨rfl, ww_707⟩, ww_33, by decide +kernel, by decide +kernel, by decide +kernel, by decide⟩
theorem v_RK_at : vtM M_RK_at 1 := ⟨mc_RK_at, ww_705, ww_706, by decide +kernel, by decide⟩
def M_MO_init : ev_M := (⟨"TypedBloodModel", "<init>", "()V"⟩, prog_7_method_1_code, 2, none, [], 0)
theorem mc_MO_init : mcw M_MO_init := ⟨Or.inr ⟨rfl, ww_754⟩, ww_34, by decide +kernel, by decide +kernel, by decide +kernel, by decide⟩
theorem i_MO_init : itM M_MO_init 0 := ⟨mc_MO_init, ww_753, ww_754, rfl, by decide +kernel, by decide⟩
def M_MO_thrown : ev_M := (⟨"TypedBloodModel", "thrown", "()I"⟩, prog_7_method_2_code, 1, some (.int), [], 0)
theorem mc_MO_thrown : mcw M_MO_thrown := ⟨Or.inr ⟨rfl, ww_838⟩, ww_34, by decide +kernel, by decide +kernel, by decide +kernel, by decide⟩
theorem v_MO_thrown : vtM M_MO_thrown 0 := ⟨mc_MO_thrown, ww_836, ww_837, by decide +kernel, by decide⟩
def M_MO_refused : ev_M := (⟨"TypedBloodModel", "refused", "(ZZZZ)Z"⟩, prog_7_method_3_code, 5, some (.boolean), [], 0)
theorem mc_MO_refused : mcw M_MO_refused := ⟨Or.inr ⟨rfl, ww_850⟩, ww_34, by decide +kernel, by decide +kernel, by decide +kernel, by decide⟩
theorem v_MO_refused : vtM M_MO_refused 4 := ⟨mc_MO_refused, ww_849, ww_14, by decide +kernel, by decide⟩
def M_MO_in : ev_M := (⟨"TypedBloodModel", "in", "(III)Z"⟩, prog_7_method_4_code, 3, some (.boolean), [], 0)
theorem mc_MO_in : mcw M_MO_in := ⟨Or.inr ⟨rfl, ww_846⟩, ww_34, by decide +kernel, by decide +kernel, by decide +kernel, by decide⟩
theorem s_MO_in : stM M_MO_in 3 := ⟨mc_MO_in, ww_845, by decide +kernel, by decide⟩
def M_MO_isUnit : ev_M := (⟨"TypedBloodModel", "isUnit", "(I)Z"⟩, prog_7_method_5_code, 2, some (.boolean), [], 1)
theorem mc_MO_isUnit : mcw M_MO_isUnit := ⟨Or.inr ⟨rfl, ww_867⟩, ww_34, by decide +kernel, by decide +kernel, by decide +kernel, by decide⟩
theorem v_MO_isUnit : vtM M_MO_isUnit 1 := ⟨mc_MO_isUnit, ww_866, ww_16, by decide +kernel, by decide⟩
def M_MO_isPatient : ev_M := (⟨"TypedBloodModel", "isPatient", "(I)Z"⟩, prog_7_method_6_code, 2, some (.boolean), [], 1)
theorem mc_MO_isPatient : mcw M_MO_isPatient := ⟨Or.inr ⟨rfl, ww_906⟩, ww_34, by decide +kernel, by decide +kernel, by decide +kernel, by decide⟩
theorem v_MO_isPatient : vtM M_MO_isPatient 1 := ⟨mc_MO_isPatient, ww_905, ww_21, by decide +kernel, by decide⟩
def M_MO_pass : ev_M := (⟨"TypedBloodModel", "pass", "(I)I"⟩, prog_7_method_7_code, 2, some (.int), [], 1)
theorem mc_MO_pass : mcw M_MO_pass := ⟨Or.inr ⟨rfl, ww_842⟩, ww_34, by decide +kernel, by decide +kernel, by decide +kernel, by decide⟩
theorem v_MO_pass : vtM M_MO_pass 1 := ⟨mc_MO_pass, ww_840, ww_841, by decide +kernel, by decide⟩
def M_MO_stateOf : ev_M := (⟨"TypedBloodModel", "stateOf", "(I)I"⟩, prog_7_method_8_code, 2, some (.int), [], 0)
theorem mc_MO_stateOf : mcw M_MO_stateOf := ⟨Or.inr ⟨rfl, ww_871⟩, ww_34, by decide +kernel, by decide +kernel, by decide +kernel, by decide⟩
theorem v_MO_stateOf : vtM M_MO_stateOf 1 := ⟨mc_MO_stateOf, ww_870, ww_17, by decide +kernel, by decide⟩
def M_MO_isExpired : ev_M := (⟨"TypedBloodModel", "isExpired", "(I)Z"⟩, prog_7_method_9_code, 2, some (.boolean), [], 0)
theorem mc_MO_isExpired : mcw M_MO_isExpired := ⟨Or.inr ⟨rfl, ww_883⟩, ww_34, by decide +kernel, by decide +kernel, by decide +kernel, by decide⟩
theorem v_MO_isExpired : vtM M_MO_isExpired 1 := ⟨mc_MO_isExpired, ww_882, ww_19, by decide +kernel, by decide⟩
def M_MO_isBarred : ev_M := (⟨"TypedBloodModel", "isBarred", "(I)Z"⟩, prog_7_method_10_code, 2, some (.boolean), [], 0)
theorem mc_MO_isBarred : mcw M_MO_isBarred := ⟨Or.inr ⟨rfl, ww_887⟩, ww_34, by decide +kernel, by decide +kernel, by decide +kernel, by decide⟩
theorem v_MO_isBarred : vtM M_MO_isBarred 1 := ⟨mc_MO_isBarred, ww_886, ww_20, by decide +kernel, by decide⟩
def M_MO_isReady : ev_M := (⟨"TypedBloodModel", "isReady", "(I)Z"⟩, prog_7_method_11_code, 2, some (.boolean), [], 1)
theorem mc_MO_isReady : mcw M_MO_isReady := ⟨Or.inr ⟨rfl, ww_879⟩, ww_34, by decide +kernel, by decide +kernel, by decide +kernel, by decide⟩
theorem v_MO_isReady : vtM M_MO_isReady 1 := ⟨mc_MO_isReady, ww_878, ww_18, by decide +kernel, by decide⟩
def M_MO_add : ev_M := (⟨"TypedBloodModel", "add", "(IIII)I"⟩, prog_7_method_12_code, 6, some (.int), [], 0)
theorem mc_MO_add : mcw M_MO_add := ⟨Or.inr ⟨rfl, ww_859⟩, ww_34, by decide +kernel, by decide +kernel, by decide +kernel, by decide⟩
theorem v_MO_add : vtM M_MO_add 4 := ⟨mc_MO_add, ww_858, ww_15, by decide +kernel, by decide⟩
def M_MO_unit : ev_M := (⟨"TypedBloodModel", "unit", "(IIIII)I"⟩, prog_7_method_13_code, 8, some (.int), [], 1)
theorem mc_MO_unit : mcw M_MO_unit := ⟨Or.inr ⟨rfl, ww_854⟩, ww_34, by decide +kernel, by decide +kernel, by decide +kernel, by decide⟩
theorem v_MO_unit : vtM M_MO_unit 5 := ⟨mc_MO_unit, ww_852, ww_853, by decide +kernel, by decide⟩
def M_MO_antigen : ev_M := (⟨"TypedBloodModel", "antigen", "(III)V"⟩, prog_7_method_14_code, 4, none, [], 2)
theorem mc_MO_antigen : mcw M_MO_antigen := ⟨Or.inr ⟨rfl, ww_863⟩, ww_34, by decide +kernel, by decide +kernel, by decide +kernel, by decide⟩
theorem v_MO_antigen : vtM M_MO_antigen 3 := ⟨mc_MO_antigen, ww_861, ww_862, by decide +kernel, by decide⟩
def M_MO_suits : ev_M := (⟨"TypedBloodModel", "suits", "(II)Z"⟩, prog_7_method_15_code, 2, some (.boolean), [], 0)
theorem mc_MO_suits : mcw M_MO_suits := ⟨Or.inr ⟨rfl, ww_890⟩, ww_34, by decide +kernel, by decide +kernel, by decide +kernel, by decide⟩
theorem s_MO_suits : stM M_MO_suits 2 := ⟨mc_MO_suits, ww_889, by decide +kernel, by decide⟩
def M_MO_process : ev_M := (⟨"TypedBloodModel", "process", "(II)I"⟩, prog_7_method_16_code, 6, some (.int), [], 2)
theorem mc_MO_process : mcw M_MO_process := ⟨Or.inr ⟨rfl, ww_875⟩, ww_34, by decide +kernel, by decide +kernel, by decide +kernel, by decide⟩
theorem v_MO_process : vtM M_MO_process 2 := ⟨mc_MO_process, ww_873, ww_874, by decide +kernel, by decide⟩
def M_MO_pool : ev_M := (⟨"TypedBloodModel", "pool", "(II)I"⟩, prog_7_method_17_code, 7, some (.int), [], 2)
theorem mc_MO_pool : mcw M_MO_pool := ⟨Or.inr ⟨rfl, ww_894⟩, ww_34, by decide +kernel, by decide +kernel, by decide +kernel, by decide⟩
theorem v_MO_pool : vtM M_MO_pool 2 := ⟨mc_MO_pool, ww_892, ww_893, by decide +kernel, by decide⟩
def M_MO_patient : ev_M := (⟨"TypedBloodModel", "patient", "()I"⟩, prog_7_method_18_code, 1, some (.int), [], 1)
theorem mc_MO_patient : mcw M_MO_patient := ⟨Or.inr ⟨rfl, ww_898⟩, ww_34, by decide +kernel, by decide +kernel, by decide +kernel, by decide⟩
theorem v_MO_patient : vtM M_MO_patient 0 := ⟨mc_MO_patient, ww_896, ww_897, by decide +kernel, by decide⟩
def M_MO_sample : ev_M := (⟨"TypedBloodModel", "sample", "(III)I"⟩, prog_7_method_19_code, 6, some (.int), [], 2)
theorem mc_MO_sample : mcw M_MO_sample := ⟨Or.inr ⟨rfl, ww_902⟩, ww_34, by decide +kernel, by decide +kernel, by decide +kernel, by decide⟩
theorem v_MO_sample : vtM M_MO_sample 3 := ⟨mc_MO_sample, ww_900, ww_901, by decide +kernel, by decide⟩
def M_MO_unlock : ev_M := (⟨"TypedBloodModel", "unlock", "(III)V"⟩, prog_7_method_20_code, 5, none, [], 2)
theorem mc_MO_unlock : mcw M_MO_unlock := ⟨Or.inr ⟨rfl, ww_910⟩, ww_34, by decide +kernel, by decide +kernel, by decide +kernel, by decide⟩
theorem v_MO_unlock : vtM M_MO_unlock 3 := ⟨mc_MO_unlock, ww_908, ww_909, by decide +kernel, by decide⟩
def M_MO_bitsOf : ev_M := (⟨"TypedBloodModel", "bitsOf", "(I)I"⟩, prog_7_method_21_code, 3, some (.int), [], 0)
theorem mc_MO_bitsOf : mcw M_MO_bitsOf := ⟨Or.inr ⟨rfl, ww_917⟩, ww_34, by decide +kernel, by decide +kernel, by decide +kernel, by decide⟩
theorem s_MO_bitsOf : stM M_MO_bitsOf 1 := ⟨mc_MO_bitsOf, ww_916, by decide +kernel, by decide⟩
def M_MO_antibody : ev_M := (⟨"TypedBloodModel", "antibody", "(II)I"⟩, prog_7_method_22_code, 3, some (.int), [], 2)
theorem mc_MO_antibody : mcw M_MO_antibody := ⟨Or.inr ⟨rfl, ww_914⟩, ww_34, by decide +kernel, by decide +kernel, by decide +kernel, by decide⟩
theorem v_MO_antibody : vtM M_MO_antibody 2 := ⟨mc_MO_antibody, ww_912, ww_913, by decide +kernel, by decide⟩
def M_MO_need : ev_M := (⟨"TypedBloodModel", "need", "(II)I"⟩, prog_7_method_23_code, 4, some (.int), [], 2)
theorem mc_MO_need : mcw M_MO_need := ⟨Or.inr ⟨rfl, ww_921⟩, ww_34, by decide +kernel, by decide +kernel, by decide +kernel, by decide⟩
theorem v_MO_need : vtM M_MO_need 2 := ⟨mc_MO_need, ww_919, ww_920, by decide +kernel, by decide⟩
def M_MO_reasonFor : ev_M := (⟨"TypedBloodModel", "reasonFor", "(II)I"⟩, prog_7_method_24_code, 8, some (.int), [], 0)
theorem mc_MO_reasonFor : mcw M_MO_reasonFor := ⟨Or.inr ⟨rfl, ww_933⟩, ww_34, by decide +kernel, by decide +kernel, by decide +kernel, by decide⟩
theorem v_MO_reasonFor : vtM M_MO_reasonFor 2 := ⟨mc_MO_reasonFor, ww_932, ww_22, by decide +kernel, by decide⟩
def M_MO_isMatched : ev_M := (⟨"TypedBloodModel", "isMatched", "(II)Z"⟩, prog_7_method_25_code, 4, some (.boolean), [], 0)
theorem mc_MO_isMatched : mcw M_MO_isMatched := ⟨Or.inr ⟨rfl, ww_937⟩, ww_34, by decide +kernel, by decide +kernel, by decide +kernel, by decide⟩
theorem v_MO_isMatched : vtM M_MO_isMatched 2 := ⟨mc_MO_isMatched, ww_936, ww_23, by decide +kernel, by decide⟩
def M_MO_crossmatch : ev_M := (⟨"TypedBloodModel", "crossmatch", "(IIZ)V"⟩, prog_7_method_26_code, 6, none, [], 2)
theorem mc_MO_crossmatch : mcw M_MO_crossmatch := ⟨Or.inr ⟨rfl, ww_925⟩, ww_34, by decide +kernel, by decide +kernel, by decide +kernel, by decide⟩
theorem v_MO_crossmatch : vtM M_MO_crossmatch 3 := ⟨mc_MO_crossmatch, ww_923, ww_924, by decide +kernel, by decide⟩
def M_MO_reserve : ev_M := (⟨"TypedBloodModel", "reserve", "(II)I"⟩, prog_7_method_27_code, 5, some (.int), [], 2)
theorem mc_MO_reserve : mcw M_MO_reserve := ⟨Or.inr ⟨rfl, ww_929⟩, ww_34, by decide +kernel, by decide +kernel, by decide +kernel, by decide⟩
theorem v_MO_reserve : vtM M_MO_reserve 2 := ⟨mc_MO_reserve, ww_927, ww_928, by decide +kernel, by decide⟩
def M_MO_release : ev_M := (⟨"TypedBloodModel", "release", "(I)I"⟩, prog_7_method_28_code, 3, some (.int), [], 2)
theorem mc_MO_release : mcw M_MO_release := ⟨Or.inr ⟨rfl, ww_941⟩, ww_34, by decide +kernel, by decide +kernel, by decide +kernel, by decide⟩
theorem v_MO_release : vtM M_MO_release 1 := ⟨mc_MO_release, ww_939, ww_940, by decide +kernel, by decide⟩
def M_MO_mayGo : ev_M := (⟨"TypedBloodModel", "mayGo", "(II)Z"⟩, prog_7_method_29_code, 5, some (.boolean), [], 1)
theorem mc_MO_mayGo : mcw M_MO_mayGo := ⟨Or.inr ⟨rfl, ww_949⟩, ww_34, by decide +kernel, by decide +kernel, by decide +kernel, by decide⟩
theorem v_MO_mayGo : vtM M_MO_mayGo 2 := ⟨mc_MO_mayGo, ww_948, ww_24, by decide +kernel, by decide⟩
def M_MO_go : ev_M := (⟨"TypedBloodModel", "go", "(III)I"⟩, prog_7_method_30_code, 6, some (.int), [], 0)
theorem mc_MO_go : mcw M_MO_go := ⟨Or.inr ⟨rfl, ww_953⟩, ww_34, by decide +kernel, by decide +kernel, by decide +kernel, by decide⟩
theorem v_MO_go : vtM M_MO_go 3 := ⟨mc_MO_go, ww_952, ww_25, by decide +kernel, by decide⟩
def M_MO_issue : ev_M := (⟨"TypedBloodModel", "issue", "(II)I"⟩, prog_7_method_31_code, 5, some (.int), [], 2)
theorem mc_MO_issue : mcw M_MO_issue := ⟨Or.inr ⟨rfl, ww_945⟩, ww_34, by decide +kernel, by decide +kernel, by decide +kernel, by decide⟩
theorem v_MO_issue : vtM M_MO_issue 2 := ⟨mc_MO_issue, ww_943, ww_944, by decide +kernel, by decide⟩
def M_MO_emergency : ev_M := (⟨"TypedBloodModel", "emergency", "(III)I"⟩, prog_7_method_32_code, 7, some (.int), [], 2)
theorem mc_MO_emergency : mcw M_MO_emergency := ⟨Or.inr ⟨rfl, ww_957⟩, ww_34, by decide +kernel, by decide +kernel, by decide +kernel, by decide⟩
theorem v_MO_emergency : vtM M_MO_emergency 3 := ⟨mc_MO_emergency, ww_955, ww_956, by decide +kernel, by decide⟩
def M_MO_giveBack : ev_M := (⟨"TypedBloodModel", "giveBack", "(I)I"⟩, prog_7_method_33_code, 3, some (.int), [], 2)
theorem mc_MO_giveBack : mcw M_MO_giveBack := ⟨Or.inr ⟨rfl, ww_961⟩, ww_34, by decide +kernel, by decide +kernel, by decide +kernel, by decide⟩
theorem v_MO_giveBack : vtM M_MO_giveBack 1 := ⟨mc_MO_giveBack, ww_959, ww_960, by decide +kernel, by decide⟩
def M_MO_transfused : ev_M := (⟨"TypedBloodModel", "transfused", "(I)I"⟩, prog_7_method_34_code, 3, some (.int), [], 2)
theorem mc_MO_transfused : mcw M_MO_transfused := ⟨Or.inr ⟨rfl, ww_965⟩, ww_34, by decide +kernel, by decide +kernel, by decide +kernel, by decide⟩
theorem v_MO_transfused : vtM M_MO_transfused 1 := ⟨mc_MO_transfused, ww_963, ww_964, by decide +kernel, by decide⟩
def M_MO_discard : ev_M := (⟨"TypedBloodModel", "discard", "(II)I"⟩, prog_7_method_35_code, 5, some (.int), [], 2)
theorem mc_MO_discard : mcw M_MO_discard := ⟨Or.inr ⟨rfl, ww_969⟩, ww_34, by decide +kernel, by decide +kernel, by decide +kernel, by decide⟩
theorem v_MO_discard : vtM M_MO_discard 2 := ⟨mc_MO_discard, ww_967, ww_968, by decide +kernel, by decide⟩
def M_MO_quarantine : ev_M := (⟨"TypedBloodModel", "quarantine", "(IZ)I"⟩, prog_7_method_36_code, 5, some (.int), [], 1)
theorem mc_MO_quarantine : mcw M_MO_quarantine := ⟨Or.inr ⟨rfl, ww_973⟩, ww_34, by decide +kernel, by decide +kernel, by decide +kernel, by decide⟩
theorem v_MO_quarantine : vtM M_MO_quarantine 2 := ⟨mc_MO_quarantine, ww_971, ww_972, by decide +kernel, by decide⟩
def M_MO_field : ev_M := (⟨"TypedBloodModel", "field", "(II)I"⟩, prog_7_method_37_code, 3, some (.int), [], 1)
theorem mc_MO_field : mcw M_MO_field := ⟨Or.inr ⟨rfl, ww_981⟩, ww_34, by decide +kernel, by decide +kernel, by decide +kernel, by decide⟩
theorem v_MO_field : vtM M_MO_field 2 := ⟨mc_MO_field, ww_980, ww_26, by decide +kernel, by decide⟩
def M_MO_of : ev_M := (⟨"TypedBloodModel", "of", "(II)I"⟩, prog_7_method_38_code, 3, some (.int), [], 2)
theorem mc_MO_of : mcw M_MO_of := ⟨Or.inr ⟨rfl, ww_977⟩, ww_34, by decide +kernel, by decide +kernel, by decide +kernel, by decide⟩
theorem v_MO_of : vtM M_MO_of 2 := ⟨mc_MO_of, ww_975, ww_976, by decide +kernel, by decide⟩
def M_MO_has : ev_M := (⟨"TypedBloodModel", "has", "(II)I"⟩, prog_7_method_39_code, 3, some (.int), [], 2)
theorem mc_MO_has : mcw M_MO_has := ⟨Or.inr ⟨rfl, ww_985⟩, ww_34, by decide +kernel, by decide +kernel, by decide +kernel, by decide⟩
theorem v_MO_has : vtM M_MO_has 2 := ⟨mc_MO_has, ww_983, ww_984, by decide +kernel, by decide⟩
def M_MO_who : ev_M := (⟨"TypedBloodModel", "who", "(II)I"⟩, prog_7_method_40_code, 3, some (.int), [], 2)
theorem mc_MO_who : mcw M_MO_who := ⟨Or.inr ⟨rfl, ww_989⟩, ww_34, by decide +kernel, by decide +kernel, by decide +kernel, by decide⟩
theorem v_MO_who : vtM M_MO_who 2 := ⟨mc_MO_who, ww_987, ww_988, by decide +kernel, by decide⟩
def M_MO_why : ev_M := (⟨"TypedBloodModel", "why", "(II)I"⟩, prog_7_method_41_code, 3, some (.int), [], 2)
theorem mc_MO_why : mcw M_MO_why := ⟨Or.inr ⟨rfl, ww_993⟩, ww_34, by decide +kernel, by decide +kernel, by decide +kernel, by decide⟩
theorem v_MO_why : vtM M_MO_why 2 := ⟨mc_MO_why, ww_991, ww_992, by decide +kernel, by decide⟩
def M_MO_isBefore : ev_M := (⟨"TypedBloodModel", "isBefore", "(II)Z"⟩, prog_7_method_42_code, 3, some (.boolean), [], 0)
theorem mc_MO_isBefore : mcw M_MO_isBefore := ⟨Or.inr ⟨rfl, ww_1005⟩, ww_34, by decide +kernel, by decide +kernel, by decide +kernel, by decide⟩
theorem v_MO_isBefore : vtM M_MO_isBefore 2 := ⟨mc_MO_isBefore, ww_1004, ww_28, by decide +kernel, by decide⟩
def M_MO_isOffered : ev_M := (⟨"TypedBloodModel", "isOffered", "(III)Z"⟩, prog_7_method_43_code, 4, some (.boolean), [], 2)
theorem mc_MO_isOffered : mcw M_MO_isOffered := ⟨Or.inr ⟨rfl, ww_1001⟩, ww_34, by decide +kernel, by decide +kernel, by decide +kernel, by decide⟩
theorem v_MO_isOffered : vtM M_MO_isOffered 3 := ⟨mc_MO_isOffered, ww_1000, ww_27, by decide +kernel, by decide⟩
def M_MO_offer : ev_M := (⟨"TypedBloodModel", "offer", "(III)I"⟩, prog_7_method_44_code, 7, some (.int), [], 3)
theorem mc_MO_offer : mcw M_MO_offer := ⟨Or.inr ⟨rfl, ww_997⟩, ww_34, by decide +kernel, by decide +kernel, by decide +kernel, by decide⟩
theorem v_MO_offer : vtM M_MO_offer 3 := ⟨mc_MO_offer, ww_995, ww_996, by decide +kernel, by decide⟩
def M_MO_stock : ev_M := (⟨"TypedBloodModel", "stock", "(III)I"⟩, prog_7_method_45_code, 7, some (.int), [], 2)
theorem mc_MO_stock : mcw M_MO_stock := ⟨Or.inr ⟨rfl, ww_1009⟩, ww_34, by decide +kernel, by decide +kernel, by decide +kernel, by decide⟩
theorem v_MO_stock : vtM M_MO_stock 3 := ⟨mc_MO_stock, ww_1007, ww_1008, by decide +kernel, by decide⟩
def M_MO_expiresIn : ev_M := (⟨"TypedBloodModel", "expiresIn", "(II)Z"⟩, prog_7_method_46_code, 3, some (.boolean), [], 1)
theorem mc_MO_expiresIn : mcw M_MO_expiresIn := ⟨Or.inr ⟨rfl, ww_1017⟩, ww_34, by decide +kernel, by decide +kernel, by decide +kernel, by decide⟩
theorem v_MO_expiresIn : vtM M_MO_expiresIn 2 := ⟨mc_MO_expiresIn, ww_1016, ww_29, by decide +kernel, by decide⟩
def M_MO_expiring : ev_M := (⟨"TypedBloodModel", "expiring", "(II)I"⟩, prog_7_method_47_code, 6, some (.int), [], 2)
theorem mc_MO_expiring : mcw M_MO_expiring := ⟨Or.inr ⟨rfl, ww_1013⟩, ww_34, by decide +kernel, by decide +kernel, by decide +kernel, by decide⟩
theorem v_MO_expiring : vtM M_MO_expiring 2 := ⟨mc_MO_expiring, ww_1011, ww_1012, by decide +kernel, by decide⟩
def M_MO_firstIssue : ev_M := (⟨"TypedBloodModel", "firstIssue", "(II)I"⟩, prog_7_method_48_code, 6, some (.int), [], 0)
theorem mc_MO_firstIssue : mcw M_MO_firstIssue := ⟨Or.inr ⟨rfl, ww_1025⟩, ww_34, by decide +kernel, by decide +kernel, by decide +kernel, by decide⟩
theorem v_MO_firstIssue : vtM M_MO_firstIssue 2 := ⟨mc_MO_firstIssue, ww_1024, ww_30, by decide +kernel, by decide⟩
def M_MO_lookback : ev_M := (⟨"TypedBloodModel", "lookback", "(II)I"⟩, prog_7_method_49_code, 8, some (.int), [], 1)
theorem mc_MO_lookback : mcw M_MO_lookback := ⟨Or.inr ⟨rfl, ww_1021⟩, ww_34, by decide +kernel, by decide +kernel, by decide +kernel, by decide⟩
theorem v_MO_lookback : vtM M_MO_lookback 2 := ⟨mc_MO_lookback, ww_1019, ww_1020, by decide +kernel, by decide⟩
def M_MO_received : ev_M := (⟨"TypedBloodModel", "received", "(II)I"⟩, prog_7_method_50_code, 6, some (.int), [], 2)
theorem mc_MO_received : mcw M_MO_received := ⟨Or.inr ⟨rfl, ww_1029⟩, ww_34, by decide +kernel, by decide +kernel, by decide +kernel, by decide⟩
theorem v_MO_received : vtM M_MO_received 2 := ⟨mc_MO_received, ww_1027, ww_1028, by decide +kernel, by decide⟩
def M_MO_count : ev_M := (⟨"TypedBloodModel", "count", "(II)I"⟩, prog_7_method_51_code, 5, some (.int), [], 1)
theorem mc_MO_count : mcw M_MO_count := ⟨Or.inr ⟨rfl, ww_1033⟩, ww_34, by decide +kernel, by decide +kernel, by decide +kernel, by decide⟩
theorem v_MO_count : vtM M_MO_count 2 := ⟨mc_MO_count, ww_1031, ww_1032, by decide +kernel, by decide⟩
def M_LW_pass : ev_M := (⟨"TypedBloodLaw", "pass", "(LTypedBlood;I[J)I"⟩, method_3_code, 4, some (.int), [(0, 9, 12, 13)], 5)
theorem mc_LW_pass : mcw M_LW_pass := ⟨Or.inl ww_104, ww_31, by decide +kernel, by decide +kernel, by decide +kernel, by decide⟩
theorem s_LW_pass : stM M_LW_pass 3 := ⟨mc_LW_pass, ww_103, by decide +kernel, by decide⟩
def M_LW_unit : ev_M := (⟨"TypedBloodLaw", "unit", "(LTypedBlood;IIIII[J)I"⟩, method_4_code, 8, some (.int), [(0, 16, 19, 13), (0, 16, 23, 19)], 5)
theorem mc_LW_unit : mcw M_LW_unit := ⟨Or.inl ww_191, ww_31, by decide +kernel, by decide +kernel, by decide +kernel, by decide⟩
theorem s_LW_unit : stM M_LW_unit 7 := ⟨mc_LW_unit, ww_190, by decide +kernel, by decide⟩
def M_LW_antigen : ev_M := (⟨"TypedBloodLaw", "antigen", "(LTypedBlood;III)I"⟩, method_5_code, 5, some (.int), [(0, 7, 10, 25), (0, 7, 14, 13), (0, 7, 18, 19)], 6)
theorem mc_LW_antigen : mcw M_LW_antigen := ⟨Or.inl ww_302, ww_31, by decide +kernel, by decide +kernel, by decide +kernel, by decide⟩
theorem s_LW_antigen : stM M_LW_antigen 4 := ⟨mc_LW_antigen, ww_301, by decide +kernel, by decide⟩
def M_LW_process : ev_M := (⟨"TypedBloodLaw", "process", "(LTypedBlood;II[J)I"⟩, method_6_code, 5, some (.int), [(0, 10, 13, 25), (0, 10, 17, 13), (0, 10, 21, 19), (0, 10, 25, 31)], 6)
theorem mc_LW_process : mcw M_LW_process := ⟨Or.inl ww_336, ww_31, by decide +kernel, by decide +kernel, by decide +kernel, by decide⟩
theorem s_LW_process : stM M_LW_process 4 := ⟨mc_LW_process, ww_335, by decide +kernel, by decide⟩
def M_LW_pool : ev_M := (⟨"TypedBloodLaw", "pool", "(LTypedBlood;II[J)I"⟩, method_7_code, 5, some (.int), [(0, 10, 13, 25), (0, 10, 17, 13), (0, 10, 21, 19), (0, 10, 25, 31)], 6)
theorem mc_LW_pool : mcw M_LW_pool := ⟨Or.inl ww_396, ww_31, by decide +kernel, by decide +kernel, by decide +kernel, by decide⟩
theorem s_LW_pool : stM M_LW_pool 4 := ⟨mc_LW_pool, ww_395, by decide +kernel, by decide⟩
def M_LW_patient : ev_M := (⟨"TypedBloodLaw", "patient", "(LTypedBlood;[J)I"⟩, method_8_code, 3, some (.int), [(0, 8, 11, 19)], 5)
theorem mc_LW_patient : mcw M_LW_patient := ⟨Or.inl ww_410, ww_31, by decide +kernel, by decide +kernel, by decide +kernel, by decide⟩
theorem s_LW_patient : stM M_LW_patient 2 := ⟨mc_LW_patient, ww_409, by decide +kernel, by decide⟩
def M_LW_sample : ev_M := (⟨"TypedBloodLaw", "sample", "(LTypedBlood;III[J)I"⟩, method_9_code, 6, some (.int), [(0, 12, 15, 25), (0, 12, 19, 13), (0, 12, 23, 19)], 6)
theorem mc_LW_sample : mcw M_LW_sample := ⟨Or.inl ww_450, ww_31, by decide +kernel, by decide +kernel, by decide +kernel, by decide⟩
theorem s_LW_sample : stM M_LW_sample 5 := ⟨mc_LW_sample, ww_449, by decide +kernel, by decide⟩
def M_LW_unlock : ev_M := (⟨"TypedBloodLaw", "unlock", "(LTypedBlood;III)I"⟩, method_10_code, 5, some (.int), [(0, 7, 10, 25), (0, 7, 14, 13), (0, 7, 18, 19)], 6)
theorem mc_LW_unlock : mcw M_LW_unlock := ⟨Or.inl ww_468, ww_31, by decide +kernel, by decide +kernel, by decide +kernel, by decide⟩
theorem s_LW_unlock : stM M_LW_unlock 4 := ⟨mc_LW_unlock, ww_467, by decide +kernel, by decide⟩
def M_LW_antibody : ev_M := (⟨"TypedBloodLaw", "antibody", "(LTypedBlood;II[J)I"⟩, method_11_code, 5, some (.int), [(0, 10, 13, 25), (0, 10, 17, 13)], 6)
theorem mc_LW_antibody : mcw M_LW_antibody := ⟨Or.inl ww_480, ww_31, by decide +kernel, by decide +kernel, by decide +kernel, by decide⟩
theorem s_LW_antibody : stM M_LW_antibody 4 := ⟨mc_LW_antibody, ww_479, by decide +kernel, by decide⟩
def M_LW_need : ev_M := (⟨"TypedBloodLaw", "need", "(LTypedBlood;II[J)I"⟩, method_12_code, 5, some (.int), [(0, 10, 13, 25), (0, 10, 17, 13)], 6)
theorem mc_LW_need : mcw M_LW_need := ⟨Or.inl ww_494, ww_31, by decide +kernel, by decide +kernel, by decide +kernel, by decide⟩
theorem s_LW_need : stM M_LW_need 4 := ⟨mc_LW_need, ww_493, by decide +kernel, by decide⟩
def M_LW_crossmatch : ev_M := (⟨"TypedBloodLaw", "crossmatch", "(LTypedBlood;IIZ)I"⟩, method_13_code, 5, some (.int), [(0, 7, 10, 25), (0, 7, 14, 19), (0, 7, 18, 31)], 6)
theorem mc_LW_crossmatch : mcw M_LW_crossmatch := ⟨Or.inl ww_502, ww_31, by decide +kernel, by decide +kernel, by decide +kernel, by decide⟩
theorem s_LW_crossmatch : stM M_LW_crossmatch 4 := ⟨mc_LW_crossmatch, ww_501, by decide +kernel, by decide⟩
def M_LW_reserve : ev_M := (⟨"TypedBloodLaw", "reserve", "(LTypedBlood;II[J)I"⟩, method_14_code, 5, some (.int), [(0, 10, 13, 25), (0, 10, 17, 19), (0, 10, 21, 31)], 6)
theorem mc_LW_reserve : mcw M_LW_reserve := ⟨Or.inl ww_519, ww_31, by decide +kernel, by decide +kernel, by decide +kernel, by decide⟩
theorem s_LW_reserve : stM M_LW_reserve 4 := ⟨mc_LW_reserve, ww_518, by decide +kernel, by decide⟩
def M_LW_release : ev_M := (⟨"TypedBloodLaw", "release", "(LTypedBlood;I[J)I"⟩, method_15_code, 4, some (.int), [(0, 9, 12, 25), (0, 9, 15, 19)], 6)
theorem mc_LW_release : mcw M_LW_release := ⟨Or.inl ww_554, ww_31, by decide +kernel, by decide +kernel, by decide +kernel, by decide⟩
theorem s_LW_release : stM M_LW_release 3 := ⟨mc_LW_release, ww_553, by decide +kernel, by decide⟩
def M_LW_issue : ev_M := (⟨"TypedBloodLaw", "issue", "(LTypedBlood;II[J)I"⟩, method_16_code, 5, some (.int), [(0, 10, 13, 25), (0, 10, 17, 19), (0, 10, 21, 31)], 6)
theorem mc_LW_issue : mcw M_LW_issue := ⟨Or.inl ww_563, ww_31, by decide +kernel, by decide +kernel, by decide +kernel, by decide⟩
theorem s_LW_issue : stM M_LW_issue 4 := ⟨mc_LW_issue, ww_562, by decide +kernel, by decide⟩
def M_LW_emergency : ev_M := (⟨"TypedBloodLaw", "emergency", "(LTypedBlood;III[J)I"⟩, method_17_code, 6, some (.int), [(0, 12, 15, 25), (0, 12, 19, 13), (0, 12, 23, 19), (0, 12, 27, 31)], 6)
theorem mc_LW_emergency : mcw M_LW_emergency := ⟨Or.inl ww_591, ww_31, by decide +kernel, by decide +kernel, by decide +kernel, by decide⟩
theorem s_LW_emergency : stM M_LW_emergency 5 := ⟨mc_LW_emergency, ww_590, by decide +kernel, by decide⟩
def M_LW_giveBack : ev_M := (⟨"TypedBloodLaw", "giveBack", "(LTypedBlood;I[J)I"⟩, method_18_code, 4, some (.int), [(0, 9, 12, 25), (0, 9, 15, 19)], 6)
theorem mc_LW_giveBack : mcw M_LW_giveBack := ⟨Or.inl ww_604, ww_31, by decide +kernel, by decide +kernel, by decide +kernel, by decide⟩
theorem s_LW_giveBack : stM M_LW_giveBack 3 := ⟨mc_LW_giveBack, ww_603, by decide +kernel, by decide⟩
def M_LW_transfused : ev_M := (⟨"TypedBloodLaw", "transfused", "(LTypedBlood;I[J)I"⟩, method_19_code, 4, some (.int), [(0, 9, 12, 25), (0, 9, 15, 19)], 6)
theorem mc_LW_transfused : mcw M_LW_transfused := ⟨Or.inl ww_612, ww_31, by decide +kernel, by decide +kernel, by decide +kernel, by decide⟩
theorem s_LW_transfused : stM M_LW_transfused 3 := ⟨mc_LW_transfused, ww_611, by decide +kernel, by decide⟩
def M_LW_discard : ev_M := (⟨"TypedBloodLaw", "discard", "(LTypedBlood;II[J)I"⟩, method_20_code, 5, some (.int), [(0, 10, 13, 25), (0, 10, 17, 13), (0, 10, 21, 19)], 6)
theorem mc_LW_discard : mcw M_LW_discard := ⟨Or.inl ww_620, ww_31, by decide +kernel, by decide +kernel, by decide +kernel, by decide⟩
theorem s_LW_discard : stM M_LW_discard 4 := ⟨mc_LW_discard, ww_619, by decide +kernel, by decide⟩
def M_LW_quarantine : ev_M := (⟨"TypedBloodLaw", "quarantine", "(LTypedBlood;IZ[J)I"⟩, method_21_code, 5, some (.int), [(0, 10, 13, 13)], 5)
theorem mc_LW_quarantine : mcw M_LW_quarantine := ⟨Or.inl ww_633, ww_31, by decide +kernel, by decide +kernel, by decide +kernel, by decide⟩
theorem s_LW_quarantine : stM M_LW_quarantine 4 := ⟨mc_LW_quarantine, ww_632, by decide +kernel, by decide⟩
def M_LW_of : ev_M := (⟨"TypedBloodLaw", "of", "(LTypedBlood;II[J)I"⟩, method_22_code, 5, some (.int), [(0, 10, 13, 25), (0, 10, 17, 85)], 6)
theorem mc_LW_of : mcw M_LW_of := ⟨Or.inl ww_641, ww_31, by decide +kernel, by decide +kernel, by decide +kernel, by decide⟩
theorem s_LW_of : stM M_LW_of 4 := ⟨mc_LW_of, ww_640, by decide +kernel, by decide⟩
def M_LW_has : ev_M := (⟨"TypedBloodLaw", "has", "(LTypedBlood;II[J)I"⟩, method_23_code, 5, some (.int), [(0, 10, 13, 25), (0, 10, 17, 85)], 6)
theorem mc_LW_has : mcw M_LW_has := ⟨Or.inl ww_665, ww_31, by decide +kernel, by decide +kernel, by decide +kernel, by decide⟩
theorem s_LW_has : stM M_LW_has 4 := ⟨mc_LW_has, ww_664, by decide +kernel, by decide⟩
def M_LW_who : ev_M := (⟨"TypedBloodLaw", "who", "(LTypedBlood;II[J)I"⟩, method_24_code, 5, some (.int), [(0, 10, 13, 25), (0, 10, 17, 85)], 6)
theorem mc_LW_who : mcw M_LW_who := ⟨Or.inl ww_676, ww_31, by decide +kernel, by decide +kernel, by decide +kernel, by decide⟩
theorem s_LW_who : stM M_LW_who 4 := ⟨mc_LW_who, ww_675, by decide +kernel, by decide⟩
def M_LW_why : ev_M := (⟨"TypedBloodLaw", "why", "(LTypedBlood;II[J)I"⟩, method_25_code, 5, some (.int), [(0, 10, 13, 25)], 6)
theorem mc_LW_why : mcw M_LW_why := ⟨Or.inl ww_683, ww_31, by decide +kernel, by decide +kernel, by decide +kernel, by decide⟩
theorem s_LW_why : stM M_LW_why 4 := ⟨mc_LW_why, ww_682, by decide +kernel, by decide⟩
def M_LW_offer : ev_M := (⟨"TypedBloodLaw", "offer", "(LTypedBlood;III[J)I"⟩, method_26_code, 6, some (.int), [(0, 12, 15, 25), (0, 12, 19, 13)], 6)
theorem mc_LW_offer : mcw M_LW_offer := ⟨Or.inl ww_690, ww_31, by decide +kernel, by decide +kernel, by decide +kernel, by decide⟩
theorem s_LW_offer : stM M_LW_offer 5 := ⟨mc_LW_offer, ww_689, by decide +kernel, by decide⟩
def M_LW_stock : ev_M := (⟨"TypedBloodLaw", "stock", "(LTypedBlood;III[J)I"⟩, method_27_code, 6, some (.int), [(0, 12, 15, 13)], 5)
theorem mc_LW_stock : mcw M_LW_stock := ⟨Or.inl ww_710, ww_31, by decide +kernel, by decide +kernel, by decide +kernel, by decide⟩
theorem s_LW_stock : stM M_LW_stock 5 := ⟨mc_LW_stock, ww_709, by decide +kernel, by decide⟩
def M_LW_expiring : ev_M := (⟨"TypedBloodLaw", "expiring", "(LTypedBlood;II[J)I"⟩, method_28_code, 5, some (.int), [(0, 10, 13, 13)], 5)
theorem mc_LW_expiring : mcw M_LW_expiring := ⟨Or.inl ww_718, ww_31, by decide +kernel, by decide +kernel, by decide +kernel, by decide⟩
theorem s_LW_expiring : stM M_LW_expiring 4 := ⟨mc_LW_expiring, ww_717, by decide +kernel, by decide⟩
def M_LW_lookback : ev_M := (⟨"TypedBloodLaw", "lookback", "(LTypedBlood;II[J)I"⟩, method_29_code, 5, some (.int), [(0, 10, 13, 13)], 5)
theorem mc_LW_lookback : mcw M_LW_lookback := ⟨Or.inl ww_726, ww_31, by decide +kernel, by decide +kernel, by decide +kernel, by decide⟩
theorem s_LW_lookback : stM M_LW_lookback 4 := ⟨mc_LW_lookback, ww_725, by decide +kernel, by decide⟩
def M_LW_received : ev_M := (⟨"TypedBloodLaw", "received", "(LTypedBlood;II[J)I"⟩, method_30_code, 5, some (.int), [(0, 10, 13, 25)], 6)
theorem mc_LW_received : mcw M_LW_received := ⟨Or.inl ww_737, ww_31, by decide +kernel, by decide +kernel, by decide +kernel, by decide⟩
theorem s_LW_received : stM M_LW_received 4 := ⟨mc_LW_received, ww_736, by decide +kernel, by decide⟩
def M_LW_count : ev_M := (⟨"TypedBloodLaw", "count", "(LTypedBlood;II[J)I"⟩, method_31_code, 5, some (.int), [(0, 10, 13, 13)], 5)
theorem mc_LW_count : mcw M_LW_count := ⟨Or.inl ww_744, ww_31, by decide +kernel, by decide +kernel, by decide +kernel, by decide⟩
theorem s_LW_count : stM M_LW_count 4 := ⟨mc_LW_count, ww_743, by decide +kernel, by decide⟩
def M_LW_law : ev_M := (⟨"TypedBloodLaw", "law", "([I)Z"⟩, code, 7, some (.boolean), [], 9)
def M_JI_bitCount : ev_M := (⟨"java/lang/Integer", "bitCount", "(I)I"⟩, prog_12_method_49_code, 1, some (.int), [], 0)
theorem mc_JI_bitCount : mcw M_JI_bitCount := ⟨Or.inr ⟨rfl, ww_488⟩, ww_45, by decide +kernel, by decide +kernel, by decide +kernel, by decide⟩
theorem s_JI_bitCount : stM M_JI_bitCount 1 := ⟨mc_JI_bitCount, ww_487, by decide +kernel, by decide⟩
theorem w_oi : wd (.instanceMethod Lib.objectInit) := ww_54
theorem w_oc : wd (.code Lib.objectInit ⟨#[0xb1]⟩ 1 none) := ww_55
theorem cl_LW_8 : wd (.classLink "TypedBloodLaw" 8 "TypedBlood") := ww_48
theorem nw_LW_8 : nwd "TypedBloodLaw" 8 0 := ⟨by decide, cl_LW_8, ww_49, ww_32⟩
theorem lk_LW_114 : wd (.methodLink "TypedBloodLaw" 114 ⟨"TypedBlood", "<init>", "()V"⟩) := ww_50
theorem lk_TB_1 : wd (.methodLink "TypedBlood" 1 ⟨"java/lang/Object", "<init>", "()V"⟩) := ww_53
theorem cl_TB_9 : wd (.classLink "TypedBlood" 9 "TypedBlood$Unit") := ww_56
theorem nw_TB_9 : nwd "TypedBlood" 9 1 := ⟨by decide, cl_TB_9, ww_226, ww_40⟩
theorem cl_TB_15 : wd (.classLink "TypedBlood" 15 "TypedBlood$Patient") := ww_58
theorem nw_TB_15 : nwd "TypedBlood" 15 2 := ⟨by decide, cl_TB_15, ww_416, ww_44⟩
theorem cl_TB_21 : wd (.classLink "TypedBlood" 21 "TypedBlood$Ranking") := ww_60
theorem nw_TB_21 : nwd "TypedBlood" 21 3 := ⟨by decide, cl_TB_21, ww_61, ww_33⟩
theorem lk_TB_23 : wd (.methodLink "TypedBlood" 23 ⟨"TypedBlood$Ranking", "<init>", "(I)V"⟩) := ww_62
theorem lk_RK_3 : wd (.methodLink "TypedBlood$Ranking" 3 ⟨"java/lang/Object", "<init>", "()V"⟩) := ww_65
theorem fl_RK_9 : fld "TypedBlood$Ranking" 9 3 0 := ⟨by decide, by decide, ww_66⟩
theorem fl_RK_15 : fld "TypedBlood$Ranking" 15 3 1 := ⟨by decide, by decide, ww_67⟩
theorem fl_RK_18 : fld "TypedBlood$Ranking" 18 3 2 := ⟨by decide, by decide, ww_68⟩
theorem fl_TB_11 : fld "TypedBlood" 11 0 0 := ⟨by decide, by decide, ww_77⟩
theorem fl_TB_17 : fld "TypedBlood" 17 0 1 := ⟨by decide, by decide, ww_78⟩
theorem fl_TB_26 : fld "TypedBlood" 26 0 2 := ⟨by decide, by decide, ww_79⟩
theorem fl_TB_42 : fld "TypedBlood" 42 0 3 := ⟨by decide, by decide, ww_80⟩
theorem fl_TB_140 : fld "TypedBlood" 140 0 4 := ⟨by decide, by decide, ww_81⟩
theorem fl_TB_38 : fld "TypedBlood" 38 0 5 := ⟨by decide, by decide, ww_82⟩
theorem fl_TB_257 : fld "TypedBlood" 257 0 6 := ⟨by decide, by decide, ww_83⟩
theorem fl_TB_328 : fld "TypedBlood" 328 0 7 := ⟨by decide, by decide, ww_84⟩
theorem lk_LW_118 : wd (.methodLink "TypedBloodLaw" 118 ⟨"TypedBloodLaw", "pass", "(LTypedBlood;I[J)I"⟩) := ww_102
theorem lk_LW_7 : wd (.methodLink "TypedBloodLaw" 7 ⟨"TypedBlood", "pass", "(I)I"⟩) := ww_106
theorem w_con_TB_30 : wd (.constant "TypedBlood" 30 50000) := ww_110
theorem lk_TB_45 : wd (.methodLink "TypedBlood" 45 ⟨"TypedBlood$Unit", "endReservationWhenOver", "(I)V"⟩) := ww_181
theorem lk_UN_45 : wd (.methodLink "TypedBlood$Unit" 45 ⟨"TypedBlood$Unit", "store", "()V"⟩) := ww_185
theorem lk_LW_127 : wd (.methodLink "TypedBloodLaw" 127 ⟨"TypedBloodLaw", "unit", "(LTypedBlood;IIIII[J)I"⟩) := ww_189
theorem lk_LW_15 : wd (.methodLink "TypedBloodLaw" 15 ⟨"TypedBlood", "unit", "(IIIII)I"⟩) := ww_193
theorem lk_TB_48 : wd (.methodLink "TypedBlood" 48 ⟨"TypedBlood", "isBelow", "(II)Z"⟩) := ww_197
theorem lk_TB_52 : wd (.methodLink "TypedBlood" 52 ⟨"TypedBlood", "isBloodType", "(II)Z"⟩) := ww_200
theorem w_con_TB_57 : wd (.constant "TypedBlood" 57 60000) := ww_204
theorem lk_TB_60 : wd (.methodLink "TypedBlood" 60 ⟨"TypedBlood", "hasRoomFor", "(I)Z"⟩) := ww_206
theorem lk_TB_69 : wd (.methodLink "TypedBlood" 69 ⟨"TypedBlood$Unit", "<init>", "(IIIII)V"⟩) := ww_227
theorem lk_UN_3 : wd (.methodLink "TypedBlood$Unit" 3 ⟨"java/lang/Object", "<init>", "()V"⟩) := ww_230
theorem fl_UN_21 : fld "TypedBlood$Unit" 21 1 0 := ⟨by decide, by decide, ww_231⟩
theorem fl_RU_9 : fld "TypedBlood$Rules" 9 1 0 := ⟨by decide, by decide, ww_232⟩
theorem fl_TB_99 : fld "TypedBlood" 99 1 0 := ⟨by decide, by decide, ww_233⟩
theorem fl_UN_24 : fld "TypedBlood$Unit" 24 1 1 := ⟨by decide, by decide, ww_234⟩
theorem fl_RU_42 : fld "TypedBlood$Rules" 42 1 1 := ⟨by decide, by decide, ww_235⟩
theorem fl_TB_128 : fld "TypedBlood" 128 1 1 := ⟨by decide, by decide, ww_236⟩
theorem fl_UN_27 : fld "TypedBlood$Unit" 27 1 2 := ⟨by decide, by decide, ww_237⟩
theorem fl_RU_21 : fld "TypedBlood$Rules" 21 1 2 := ⟨by decide, by decide, ww_238⟩
theorem fl_TB_131 : fld "TypedBlood" 131 1 2 := ⟨by decide, by decide, ww_239⟩
theorem fl_UN_30 : fld "TypedBlood$Unit" 30 1 3 := ⟨by decide, by decide, ww_240⟩
theorem fl_TB_335 : fld "TypedBlood" 335 1 3 := ⟨by decide, by decide, ww_241⟩
theorem fl_UN_33 : fld "TypedBlood$Unit" 33 1 4 := ⟨by decide, by decide, ww_242⟩
theorem fl_TB_266 : fld "TypedBlood" 266 1 4 := ⟨by decide, by decide, ww_243⟩
theorem fl_UN_36 : fld "TypedBlood$Unit" 36 1 5 := ⟨by decide, by decide, ww_244⟩
theorem fl_TB_343 : fld "TypedBlood" 343 1 5 := ⟨by decide, by decide, ww_245⟩
theorem fl_RU_33 : fld "TypedBlood$Rules" 33 1 6 := ⟨by decide, by decide, ww_246⟩
theorem fl_UN_39 : fld "TypedBlood$Unit" 39 1 6 := ⟨by decide, by decide, ww_247⟩
theorem fl_TB_346 : fld "TypedBlood" 346 1 6 := ⟨by decide, by decide, ww_248⟩
theorem fl_RU_39 : fld "TypedBlood$Rules" 39 1 7 := ⟨by decide, by decide, ww_249⟩
theorem fl_TB_263 : fld "TypedBlood" 263 1 7 := ⟨by decide, by decide, ww_250⟩
theorem fl_UN_9 : fld "TypedBlood$Unit" 9 1 8 := ⟨by decide, by decide, ww_251⟩
theorem fl_TB_82 : fld "TypedBlood" 82 1 8 := ⟨by decide, by decide, ww_252⟩
theorem fl_UN_15 : fld "TypedBlood$Unit" 15 1 9 := ⟨by decide, by decide, ww_253⟩
theorem fl_TB_209 : fld "TypedBlood" 209 1 9 := ⟨by decide, by decide, ww_254⟩
theorem fl_UN_42 : fld "TypedBlood$Unit" 42 1 10 := ⟨by decide, by decide, ww_255⟩
theorem fl_TB_204 : fld "TypedBlood" 204 1 10 := ⟨by decide, by decide, ww_256⟩
theorem fl_UN_51 : fld "TypedBlood$Unit" 51 1 11 := ⟨by decide, by decide, ww_257⟩
theorem fl_TB_241 : fld "TypedBlood" 241 1 11 := ⟨by decide, by decide, ww_258⟩
theorem fl_UN_18 : fld "TypedBlood$Unit" 18 1 12 := ⟨by decide, by decide, ww_259⟩
theorem fl_TB_310 : fld "TypedBlood" 310 1 12 := ⟨by decide, by decide, ww_260⟩
theorem fl_UN_48 : fld "TypedBlood$Unit" 48 1 13 := ⟨by decide, by decide, ww_261⟩
theorem fl_TB_269 : fld "TypedBlood" 269 1 13 := ⟨by decide, by decide, ww_262⟩
theorem fl_UN_54 : fld "TypedBlood$Unit" 54 1 14 := ⟨by decide, by decide, ww_263⟩
theorem fl_TB_272 : fld "TypedBlood" 272 1 14 := ⟨by decide, by decide, ww_264⟩
theorem lk_TB_72 : wd (.methodLink "TypedBlood" 72 ⟨"TypedBlood", "keep", "(LTypedBlood$Unit;)I"⟩) := ww_296
theorem lk_LW_131 : wd (.methodLink "TypedBloodLaw" 131 ⟨"TypedBloodLaw", "antigen", "(LTypedBlood;III)I"⟩) := ww_300
theorem lk_LW_21 : wd (.methodLink "TypedBloodLaw" 21 ⟨"TypedBlood", "antigen", "(III)V"⟩) := ww_304
theorem lk_TB_76 : wd (.methodLink "TypedBlood" 76 ⟨"TypedBlood", "unitAt", "(I)LTypedBlood$Unit;"⟩) := ww_308
theorem lk_TB_87 : wd (.methodLink "TypedBlood" 87 ⟨"TypedBlood$Unit", "setAntigen", "(II)V"⟩) := ww_330
theorem lk_LW_135 : wd (.methodLink "TypedBloodLaw" 135 ⟨"TypedBloodLaw", "process", "(LTypedBlood;II[J)I"⟩) := ww_334
theorem lk_LW_27 : wd (.methodLink "TypedBloodLaw" 27 ⟨"TypedBlood", "process", "(II)I"⟩) := ww_338
theorem lk_TB_93 : wd (.methodLink "TypedBlood" 93 ⟨"TypedBlood", "isReady", "(LTypedBlood$Unit;)Z"⟩) := ww_343
theorem lk_TB_322 : wd (.methodLink "TypedBlood" 322 ⟨"TypedBlood", "isUsable", "(LTypedBlood$Unit;)Z"⟩) := ww_347
theorem lk_TB_300 : wd (.methodLink "TypedBlood" 300 ⟨"TypedBlood$Unit", "isExpired", "(I)Z"⟩) := ww_351
theorem lk_TB_260 : wd (.methodLink "TypedBlood" 260 ⟨"TypedBlood$Unit", "isBarred", "(I)Z"⟩) := ww_355
theorem lk_TB_102 : wd (.methodLink "TypedBlood" 102 ⟨"TypedBlood", "suits", "(II)Z"⟩) := ww_360
theorem lk_TB_110 : wd (.methodLink "TypedBlood" 110 ⟨"TypedBlood", "keepSplitProducts", "(LTypedBlood$Unit;)I"⟩) := ww_379
theorem lk_TB_120 : wd (.methodLink "TypedBlood" 120 ⟨"TypedBlood", "keepProduct", "(LTypedBlood$Unit;III)I"⟩) := ww_383
theorem lk_TB_338 : wd (.methodLink "TypedBlood" 338 ⟨"java/lang/Math", "min", "(II)I"⟩) := ww_387
theorem fs_TB_117 : wd (.fieldLink "TypedBlood" 117 "TypedBlood" "PRODUCT_LIMIT" "[I") := ww_390
theorem fs_TB_113 : wd (.fieldLink "TypedBlood" 113 "TypedBlood" "ADDED_MARK" "[I") := ww_392
theorem lk_LW_139 : wd (.methodLink "TypedBloodLaw" 139 ⟨"TypedBloodLaw", "pool", "(LTypedBlood;II[J)I"⟩) := ww_394
theorem lk_LW_33 : wd (.methodLink "TypedBloodLaw" 33 ⟨"TypedBlood", "pool", "(II)I"⟩) := ww_397
theorem lk_TB_136 : wd (.methodLink "TypedBlood" 136 ⟨"TypedBlood", "keepPooled", "(LTypedBlood$Unit;LTypedBlood$Unit;)I"⟩) := ww_404
theorem lk_LW_142 : wd (.methodLink "TypedBloodLaw" 142 ⟨"TypedBloodLaw", "patient", "(LTypedBlood;[J)I"⟩) := ww_408
theorem lk_LW_36 : wd (.methodLink "TypedBloodLaw" 36 ⟨"TypedBlood", "patient", "()I"⟩) := ww_411
theorem lk_TB_145 : wd (.methodLink "TypedBlood" 145 ⟨"TypedBlood$Patient", "<init>", "()V"⟩) := ww_417
theorem lk_PA_3 : wd (.methodLink "TypedBlood$Patient" 3 ⟨"java/lang/Object", "<init>", "()V"⟩) := ww_420
theorem fl_PA_9 : fld "TypedBlood$Patient" 9 2 0 := ⟨by decide, by decide, ww_421⟩
theorem fl_TB_152 : fld "TypedBlood" 152 2 0 := ⟨by decide, by decide, ww_422⟩
theorem fl_PA_15 : fld "TypedBlood$Patient" 15 2 1 := ⟨by decide, by decide, ww_423⟩
theorem fl_TB_283 : fld "TypedBlood" 283 2 1 := ⟨by decide, by decide, ww_424⟩
theorem fl_PA_18 : fld "TypedBlood$Patient" 18 2 2 := ⟨by decide, by decide, ww_425⟩
theorem fl_TB_284 : fld "TypedBlood" 284 2 2 := ⟨by decide, by decide, ww_426⟩
theorem fl_PA_25 : fld "TypedBlood$Patient" 25 2 3 := ⟨by decide, by decide, ww_427⟩
theorem fl_RU_30 : fld "TypedBlood$Rules" 30 2 4 := ⟨by decide, by decide, ww_428⟩
theorem fl_TB_168 : fld "TypedBlood" 168 2 4 := ⟨by decide, by decide, ww_429⟩
theorem fl_RU_36 : fld "TypedBlood$Rules" 36 2 5 := ⟨by decide, by decide, ww_430⟩
theorem fl_TB_179 : fld "TypedBlood" 179 2 5 := ⟨by decide, by decide, ww_431⟩
theorem fl_PA_21 : fld "TypedBlood$Patient" 21 2 6 := ⟨by decide, by decide, ww_432⟩
theorem lk_LW_146 : wd (.methodLink "TypedBloodLaw" 146 ⟨"TypedBloodLaw", "sample", "(LTypedBlood;III[J)I"⟩) := ww_448
theorem lk_LW_40 : wd (.methodLink "TypedBloodLaw" 40 ⟨"TypedBlood", "sample", "(III)I"⟩) := ww_451
theorem lk_TB_146 : wd (.methodLink "TypedBlood" 146 ⟨"TypedBlood", "patientAt", "(I)LTypedBlood$Patient;"⟩) := ww_455
theorem lk_TB_157 : wd (.methodLink "TypedBlood" 157 ⟨"TypedBlood$Patient", "takeSample", "(III)V"⟩) := ww_462
theorem lk_LW_150 : wd (.methodLink "TypedBloodLaw" 150 ⟨"TypedBloodLaw", "unlock", "(LTypedBlood;III)I"⟩) := ww_466
theorem lk_LW_44 : wd (.methodLink "TypedBloodLaw" 44 ⟨"TypedBlood", "unlock", "(III)V"⟩) := ww_469
theorem lk_TB_163 : wd (.methodLink "TypedBlood" 163 ⟨"TypedBlood$Patient", "confirm", "(II)V"⟩) := ww_474
theorem lk_LW_153 : wd (.methodLink "TypedBloodLaw" 153 ⟨"TypedBloodLaw", "antibody", "(LTypedBlood;II[J)I"⟩) := ww_478
theorem lk_LW_47 : wd (.methodLink "TypedBloodLaw" 47 ⟨"TypedBlood", "antibody", "(II)I"⟩) := ww_481
theorem lk_TB_171 : wd (.methodLink "TypedBlood" 171 ⟨"java/lang/Integer", "bitCount", "(I)I"⟩) := ww_486
theorem w_con_JI_265 : wd (.constant "java/lang/Integer" 265 1431655765) := ww_489
theorem w_con_JI_266 : wd (.constant "java/lang/Integer" 266 858993459) := ww_490
theorem w_con_JI_267 : wd (.constant "java/lang/Integer" 267 252645135) := ww_491
theorem lk_LW_156 : wd (.methodLink "TypedBloodLaw" 156 ⟨"TypedBloodLaw", "need", "(LTypedBlood;II[J)I"⟩) := ww_492
theorem lk_LW_50 : wd (.methodLink "TypedBloodLaw" 50 ⟨"TypedBlood", "need", "(II)I"⟩) := ww_495
theorem lk_LW_159 : wd (.methodLink "TypedBloodLaw" 159 ⟨"TypedBloodLaw", "crossmatch", "(LTypedBlood;IIZ)I"⟩) := ww_500
theorem lk_LW_53 : wd (.methodLink "TypedBloodLaw" 53 ⟨"TypedBlood", "crossmatch", "(IIZ)V"⟩) := ww_503
theorem lk_TB_182 : wd (.methodLink "TypedBlood" 182 ⟨"TypedBlood$Unit", "isInHouse", "()Z"⟩) := ww_507
theorem lk_TB_190 : wd (.methodLink "TypedBlood" 190 ⟨"TypedBlood$Patient", "noteCrossmatch", "(II)V"⟩) := ww_513
theorem lk_LW_163 : wd (.methodLink "TypedBloodLaw" 163 ⟨"TypedBloodLaw", "reserve", "(LTypedBlood;II[J)I"⟩) := ww_517
theorem lk_LW_57 : wd (.methodLink "TypedBloodLaw" 57 ⟨"TypedBlood", "reserve", "(II)I"⟩) := ww_520
theorem lk_TB_195 : wd (.methodLink "TypedBlood" 195 ⟨"TypedBlood", "isCleared", "(LTypedBlood$Patient;LTypedBlood$Unit;I)Z"⟩) := ww_525
theorem lk_TB_325 : wd (.methodLink "TypedBlood" 325 ⟨"TypedBlood$Patient", "hasValidCrossmatch", "(II)Z"⟩) := ww_529
theorem lk_TB_233 : wd (.methodLink "TypedBlood" 233 ⟨"TypedBlood$Rules", "reason", "(LTypedBlood$Patient;LTypedBlood$Unit;)I"⟩) := ww_533
theorem lk_RU_15 : wd (.methodLink "TypedBlood$Rules" 15 ⟨"TypedBlood$Rules", "groupFits", "(LTypedBlood$Patient;LTypedBlood$Unit;)Z"⟩) := ww_536
theorem lk_RU_45 : wd (.methodLink "TypedBlood$Rules" 45 ⟨"TypedBlood$Patient", "groupOr", "(I)I"⟩) := ww_539
theorem lk_RU_24 : wd (.methodLink "TypedBlood$Rules" 24 ⟨"TypedBlood$Patient", "isConfirmedWithRhesus", "()Z"⟩) := ww_543
theorem lk_TB_201 : wd (.methodLink "TypedBlood" 201 ⟨"TypedBlood$Unit", "reserveFor", "(II)V"⟩) := ww_548
theorem lk_LW_166 : wd (.methodLink "TypedBloodLaw" 166 ⟨"TypedBloodLaw", "release", "(LTypedBlood;I[J)I"⟩) := ww_552
theorem lk_LW_60 : wd (.methodLink "TypedBloodLaw" 60 ⟨"TypedBlood", "release", "(I)I"⟩) := ww_555
theorem lk_TB_212 : wd (.methodLink "TypedBlood" 212 ⟨"TypedBlood$Unit", "store", "()V"⟩) := ww_560
theorem lk_LW_169 : wd (.methodLink "TypedBloodLaw" 169 ⟨"TypedBloodLaw", "issue", "(LTypedBlood;II[J)I"⟩) := ww_561
theorem lk_LW_63 : wd (.methodLink "TypedBloodLaw" 63 ⟨"TypedBlood", "issue", "(II)I"⟩) := ww_564
theorem lk_TB_215 : wd (.methodLink "TypedBlood" 215 ⟨"TypedBlood", "mayLeaveFor", "(ILTypedBlood$Unit;)Z"⟩) := ww_568
theorem lk_TB_219 : wd (.methodLink "TypedBlood" 219 ⟨"TypedBlood$Patient", "hasFreshSample", "(I)Z"⟩) := ww_572
theorem lk_TB_224 : wd (.methodLink "TypedBlood" 224 ⟨"TypedBlood", "handOver", "(LTypedBlood$Unit;II)I"⟩) := ww_577
theorem lk_TB_331 : wd (.methodLink "TypedBlood" 331 ⟨"TypedBlood$Unit", "issueTo", "(IIII)V"⟩) := ww_581
theorem lk_TB_307 : wd (.methodLink "TypedBlood" 307 ⟨"TypedBlood$Unit", "wentTo", "(I)Z"⟩) := ww_585
theorem lk_LW_172 : wd (.methodLink "TypedBloodLaw" 172 ⟨"TypedBloodLaw", "emergency", "(LTypedBlood;III[J)I"⟩) := ww_589
theorem lk_LW_66 : wd (.methodLink "TypedBloodLaw" 66 ⟨"TypedBlood", "emergency", "(III)I"⟩) := ww_592
theorem lk_TB_230 : wd (.methodLink "TypedBlood" 230 ⟨"TypedBlood$Unit", "isForEmergencies", "()Z"⟩) := ww_597
theorem lk_LW_175 : wd (.methodLink "TypedBloodLaw" 175 ⟨"TypedBloodLaw", "giveBack", "(LTypedBlood;I[J)I"⟩) := ww_602
theorem lk_LW_69 : wd (.methodLink "TypedBloodLaw" 69 ⟨"TypedBlood", "giveBack", "(I)I"⟩) := ww_605
theorem lk_LW_178 : wd (.methodLink "TypedBloodLaw" 178 ⟨"TypedBloodLaw", "transfused", "(LTypedBlood;I[J)I"⟩) := ww_610
theorem lk_LW_72 : wd (.methodLink "TypedBloodLaw" 72 ⟨"TypedBlood", "transfused", "(I)I"⟩) := ww_613
theorem lk_LW_181 : wd (.methodLink "TypedBloodLaw" 181 ⟨"TypedBloodLaw", "discard", "(LTypedBlood;II[J)I"⟩) := ww_618
theorem lk_LW_75 : wd (.methodLink "TypedBloodLaw" 75 ⟨"TypedBlood", "discard", "(II)I"⟩) := ww_621
theorem lk_TB_252 : wd (.methodLink "TypedBlood" 252 ⟨"TypedBlood$Unit", "throwAway", "(I)V"⟩) := ww_627
theorem lk_LW_184 : wd (.methodLink "TypedBloodLaw" 184 ⟨"TypedBloodLaw", "quarantine", "(LTypedBlood;IZ[J)I"⟩) := ww_631
theorem lk_LW_78 : wd (.methodLink "TypedBloodLaw" 78 ⟨"TypedBlood", "quarantine", "(IZ)I"⟩) := ww_634
theorem lk_LW_188 : wd (.methodLink "TypedBloodLaw" 188 ⟨"TypedBloodLaw", "of", "(LTypedBlood;II[J)I"⟩) := ww_639
theorem lk_LW_82 : wd (.methodLink "TypedBloodLaw" 82 ⟨"TypedBlood", "of", "(II)I"⟩) := ww_643
theorem lk_LW_191 : wd (.methodLink "TypedBloodLaw" 191 ⟨"TypedBloodLaw", "has", "(LTypedBlood;II[J)I"⟩) := ww_663
theorem lk_LW_87 : wd (.methodLink "TypedBloodLaw" 87 ⟨"TypedBlood", "has", "(II)I"⟩) := ww_666
theorem lk_TB_280 : wd (.methodLink "TypedBlood" 280 ⟨"TypedBlood$Unit", "antigenValue", "(I)I"⟩) := ww_670
theorem lk_LW_194 : wd (.methodLink "TypedBloodLaw" 194 ⟨"TypedBloodLaw", "who", "(LTypedBlood;II[J)I"⟩) := ww_674
theorem lk_LW_90 : wd (.methodLink "TypedBloodLaw" 90 ⟨"TypedBlood", "who", "(II)I"⟩) := ww_677
theorem lk_LW_197 : wd (.methodLink "TypedBloodLaw" 197 ⟨"TypedBloodLaw", "why", "(LTypedBlood;II[J)I"⟩) := ww_681
theorem lk_LW_93 : wd (.methodLink "TypedBloodLaw" 93 ⟨"TypedBlood", "why", "(II)I"⟩) := ww_684
theorem lk_LW_200 : wd (.methodLink "TypedBloodLaw" 200 ⟨"TypedBloodLaw", "offer", "(LTypedBlood;III[J)I"⟩) := ww_688
theorem lk_LW_96 : wd (.methodLink "TypedBloodLaw" 96 ⟨"TypedBlood", "offer", "(III)I"⟩) := ww_691
theorem lk_TB_287 : wd (.methodLink "TypedBlood" 287 ⟨"TypedBlood$Ranking", "empty", "()V"⟩) := ww_696
theorem lk_TB_290 : wd (.methodLink "TypedBlood" 290 ⟨"TypedBlood$Ranking", "insert", "(II)V"⟩) := ww_700
theorem lk_TB_293 : wd (.methodLink "TypedBlood" 293 ⟨"TypedBlood$Ranking", "at", "(I)I"⟩) := ww_704
theorem lk_LW_203 : wd (.methodLink "TypedBloodLaw" 203 ⟨"TypedBloodLaw", "stock", "(LTypedBlood;III[J)I"⟩) := ww_708
theorem lk_LW_99 : wd (.methodLink "TypedBloodLaw" 99 ⟨"TypedBlood", "stock", "(III)I"⟩) := ww_711
theorem lk_LW_206 : wd (.methodLink "TypedBloodLaw" 206 ⟨"TypedBloodLaw", "expiring", "(LTypedBlood;II[J)I"⟩) := ww_716
theorem lk_LW_102 : wd (.methodLink "TypedBloodLaw" 102 ⟨"TypedBlood", "expiring", "(II)I"⟩) := ww_719
theorem lk_LW_209 : wd (.methodLink "TypedBloodLaw" 209 ⟨"TypedBloodLaw", "lookback", "(LTypedBlood;II[J)I"⟩) := ww_724
theorem lk_LW_105 : wd (.methodLink "TypedBloodLaw" 105 ⟨"TypedBlood", "lookback", "(II)I"⟩) := ww_727
theorem lk_TB_303 : wd (.methodLink "TypedBlood" 303 ⟨"TypedBlood", "firstIssue", "(II)I"⟩) := ww_731
theorem lk_LW_212 : wd (.methodLink "TypedBloodLaw" 212 ⟨"TypedBloodLaw", "received", "(LTypedBlood;II[J)I"⟩) := ww_735
theorem lk_LW_108 : wd (.methodLink "TypedBloodLaw" 108 ⟨"TypedBlood", "received", "(II)I"⟩) := ww_738
theorem lk_LW_215 : wd (.methodLink "TypedBloodLaw" 215 ⟨"TypedBloodLaw", "count", "(LTypedBlood;II[J)I"⟩) := ww_742
theorem lk_LW_111 : wd (.methodLink "TypedBloodLaw" 111 ⟨"TypedBlood", "count", "(II)I"⟩) := ww_745
theorem cl_LW_115 : wd (.classLink "TypedBloodLaw" 115 "TypedBloodModel") := ww_750
theorem nw_LW_115 : nwd "TypedBloodLaw" 115 4 := ⟨by decide, cl_LW_115, ww_751, ww_34⟩
theorem lk_LW_117 : wd (.methodLink "TypedBloodLaw" 117 ⟨"TypedBloodModel", "<init>", "()V"⟩) := ww_752
theorem lk_MO_1 : wd (.methodLink "TypedBloodModel" 1 ⟨"java/lang/Object", "<init>", "()V"⟩) := ww_755
theorem fl_MO_70 : fld "TypedBloodModel" 70 4 0 := ⟨by decide, by decide, ww_756⟩
theorem fl_MO_89 : fld "TypedBloodModel" 89 4 1 := ⟨by decide, by decide, ww_757⟩
theorem fl_MO_74 : fld "TypedBloodModel" 74 4 2 := ⟨by decide, by decide, ww_758⟩
theorem fl_MO_7 : fld "TypedBloodModel" 7 4 3 := ⟨by decide, by decide, ww_759⟩
theorem fl_MO_13 : fld "TypedBloodModel" 13 4 4 := ⟨by decide, by decide, ww_760⟩
theorem fl_MO_16 : fld "TypedBloodModel" 16 4 5 := ⟨by decide, by decide, ww_761⟩
theorem fl_MO_19 : fld "TypedBloodModel" 19 4 6 := ⟨by decide, by decide, ww_762⟩
theorem fl_MO_22 : fld "TypedBloodModel" 22 4 7 := ⟨by decide, by decide, ww_763⟩
theorem fl_MO_25 : fld "TypedBloodModel" 25 4 8 := ⟨by decide, by decide, ww_764⟩
theorem fl_MO_28 : fld "TypedBloodModel" 28 4 9 := ⟨by decide, by decide, ww_765⟩
theorem fl_MO_31 : fld "TypedBloodModel" 31 4 10 := ⟨by decide, by decide, ww_766⟩
theorem fl_MO_34 : fld "TypedBloodModel" 34 4 11 := ⟨by decide, by decide, ww_767⟩
theorem fl_MO_37 : fld "TypedBloodModel" 37 4 12 := ⟨by decide, by decide, ww_768⟩
theorem fl_MO_40 : fld "TypedBloodModel" 40 4 13 := ⟨by decide, by decide, ww_769⟩
theorem fl_MO_43 : fld "TypedBloodModel" 43 4 14 := ⟨by decide, by decide, ww_770⟩
theorem fl_MO_46 : fld "TypedBloodModel" 46 4 15 := ⟨by decide, by decide, ww_771⟩
theorem fl_MO_49 : fld "TypedBloodModel" 49 4 16 := ⟨by decide, by decide, ww_772⟩
theorem fl_MO_134 : fld "TypedBloodModel" 134 4 17 := ⟨by decide, by decide, ww_773⟩
theorem fl_MO_92 : fld "TypedBloodModel" 92 4 18 := ⟨by decide, by decide, ww_774⟩
theorem fl_MO_81 : fld "TypedBloodModel" 81 4 19 := ⟨by decide, by decide, ww_775⟩
theorem fl_MO_52 : fld "TypedBloodModel" 52 4 20 := ⟨by decide, by decide, ww_776⟩
theorem fl_MO_55 : fld "TypedBloodModel" 55 4 21 := ⟨by decide, by decide, ww_777⟩
theorem fl_MO_58 : fld "TypedBloodModel" 58 4 22 := ⟨by decide, by decide, ww_778⟩
theorem fl_MO_61 : fld "TypedBloodModel" 61 4 23 := ⟨by decide, by decide, ww_779⟩
theorem fl_MO_64 : fld "TypedBloodModel" 64 4 24 := ⟨by decide, by decide, ww_780⟩
theorem fl_MO_67 : fld "TypedBloodModel" 67 4 25 := ⟨by decide, by decide, ww_781⟩
theorem lk_LW_124 : wd (.methodLink "TypedBloodLaw" 124 ⟨"TypedBloodModel", "thrown", "()I"⟩) := ww_835
theorem lk_LW_123 : wd (.methodLink "TypedBloodLaw" 123 ⟨"TypedBloodModel", "pass", "(I)I"⟩) := ww_839
theorem w_con_MO_84 : wd (.constant "TypedBloodModel" 84 50000) := ww_843
theorem lk_MO_77 : wd (.methodLink "TypedBloodModel" 77 ⟨"TypedBloodModel", "in", "(III)Z"⟩) := ww_844
theorem lk_MO_85 : wd (.methodLink "TypedBloodModel" 85 ⟨"TypedBloodModel", "refused", "(ZZZZ)Z"⟩) := ww_847
theorem lk_LW_130 : wd (.methodLink "TypedBloodLaw" 130 ⟨"TypedBloodModel", "unit", "(IIIII)I"⟩) := ww_851
theorem w_con_MO_106 : wd (.constant "TypedBloodModel" 106 60000) := ww_855
theorem lk_MO_107 : wd (.methodLink "TypedBloodModel" 107 ⟨"TypedBloodModel", "add", "(IIII)I"⟩) := ww_856
theorem lk_LW_134 : wd (.methodLink "TypedBloodLaw" 134 ⟨"TypedBloodModel", "antigen", "(III)V"⟩) := ww_860
theorem lk_MO_111 : wd (.methodLink "TypedBloodModel" 111 ⟨"TypedBloodModel", "isUnit", "(I)Z"⟩) := ww_864
theorem lk_MO_95 : wd (.methodLink "TypedBloodModel" 95 ⟨"TypedBloodModel", "stateOf", "(I)I"⟩) := ww_868
theorem lk_LW_138 : wd (.methodLink "TypedBloodLaw" 138 ⟨"TypedBloodModel", "process", "(II)I"⟩) := ww_872
theorem lk_MO_114 : wd (.methodLink "TypedBloodModel" 114 ⟨"TypedBloodModel", "isReady", "(I)Z"⟩) := ww_876
theorem lk_MO_99 : wd (.methodLink "TypedBloodModel" 99 ⟨"TypedBloodModel", "isExpired", "(I)Z"⟩) := ww_880
theorem lk_MO_103 : wd (.methodLink "TypedBloodModel" 103 ⟨"TypedBloodModel", "isBarred", "(I)Z"⟩) := ww_884
theorem lk_MO_117 : wd (.methodLink "TypedBloodModel" 117 ⟨"TypedBloodModel", "suits", "(II)Z"⟩) := ww_888
theorem lk_LW_141 : wd (.methodLink "TypedBloodLaw" 141 ⟨"TypedBloodModel", "pool", "(II)I"⟩) := ww_891
theorem lk_LW_145 : wd (.methodLink "TypedBloodLaw" 145 ⟨"TypedBloodModel", "patient", "()I"⟩) := ww_895
theorem lk_LW_149 : wd (.methodLink "TypedBloodLaw" 149 ⟨"TypedBloodModel", "sample", "(III)I"⟩) := ww_899
theorem lk_MO_121 : wd (.methodLink "TypedBloodModel" 121 ⟨"TypedBloodModel", "isPatient", "(I)Z"⟩) := ww_903
theorem lk_LW_152 : wd (.methodLink "TypedBloodLaw" 152 ⟨"TypedBloodModel", "unlock", "(III)V"⟩) := ww_907
theorem lk_LW_155 : wd (.methodLink "TypedBloodLaw" 155 ⟨"TypedBloodModel", "antibody", "(II)I"⟩) := ww_911
theorem lk_MO_124 : wd (.methodLink "TypedBloodModel" 124 ⟨"TypedBloodModel", "bitsOf", "(I)I"⟩) := ww_915
theorem lk_LW_158 : wd (.methodLink "TypedBloodLaw" 158 ⟨"TypedBloodModel", "need", "(II)I"⟩) := ww_918
theorem lk_LW_162 : wd (.methodLink "TypedBloodLaw" 162 ⟨"TypedBloodModel", "crossmatch", "(IIZ)V"⟩) := ww_922
theorem lk_LW_165 : wd (.methodLink "TypedBloodLaw" 165 ⟨"TypedBloodModel", "reserve", "(II)I"⟩) := ww_926
theorem lk_MO_127 : wd (.methodLink "TypedBloodModel" 127 ⟨"TypedBloodModel", "reasonFor", "(II)I"⟩) := ww_930
theorem lk_MO_131 : wd (.methodLink "TypedBloodModel" 131 ⟨"TypedBloodModel", "isMatched", "(II)Z"⟩) := ww_934
theorem lk_LW_168 : wd (.methodLink "TypedBloodLaw" 168 ⟨"TypedBloodModel", "release", "(I)I"⟩) := ww_938
theorem lk_LW_171 : wd (.methodLink "TypedBloodLaw" 171 ⟨"TypedBloodModel", "issue", "(II)I"⟩) := ww_942
theorem lk_MO_137 : wd (.methodLink "TypedBloodModel" 137 ⟨"TypedBloodModel", "mayGo", "(II)Z"⟩) := ww_946
theorem lk_MO_140 : wd (.methodLink "TypedBloodModel" 140 ⟨"TypedBloodModel", "go", "(III)I"⟩) := ww_950
theorem lk_LW_174 : wd (.methodLink "TypedBloodLaw" 174 ⟨"TypedBloodModel", "emergency", "(III)I"⟩) := ww_954
theorem lk_LW_177 : wd (.methodLink "TypedBloodLaw" 177 ⟨"TypedBloodModel", "giveBack", "(I)I"⟩) := ww_958
theorem lk_LW_180 : wd (.methodLink "TypedBloodLaw" 180 ⟨"TypedBloodModel", "transfused", "(I)I"⟩) := ww_962
theorem lk_LW_183 : wd (.methodLink "TypedBloodLaw" 183 ⟨"TypedBloodModel", "discard", "(II)I"⟩) := ww_966
theorem lk_LW_187 : wd (.methodLink "TypedBloodLaw" 187 ⟨"TypedBloodModel", "quarantine", "(IZ)I"⟩) := ww_970
theorem lk_LW_190 : wd (.methodLink "TypedBloodLaw" 190 ⟨"TypedBloodModel", "of", "(II)I"⟩) := ww_974
theorem lk_MO_144 : wd (.methodLink "TypedBloodModel" 144 ⟨"TypedBloodModel", "field", "(II)I"⟩) := ww_978
theorem lk_LW_193 : wd (.methodLink "TypedBloodLaw" 193 ⟨"TypedBloodModel", "has", "(II)I"⟩) := ww_982
theorem lk_LW_196 : wd (.methodLink "TypedBloodLaw" 196 ⟨"TypedBloodModel", "who", "(II)I"⟩) := ww_986
theorem lk_LW_199 : wd (.methodLink "TypedBloodLaw" 199 ⟨"TypedBloodModel", "why", "(II)I"⟩) := ww_990
theorem lk_LW_202 : wd (.methodLink "TypedBloodLaw" 202 ⟨"TypedBloodModel", "offer", "(III)I"⟩) := ww_994
theorem lk_MO_147 : wd (.methodLink "TypedBloodModel" 147 ⟨"TypedBloodModel", "isOffered", "(III)Z"⟩) := ww_998
theorem lk_MO_150 : wd (.methodLink "TypedBloodModel" 150 ⟨"TypedBloodModel", "isBefore", "(II)Z"⟩) := ww_1002
theorem lk_LW_205 : wd (.methodLink "TypedBloodLaw" 205 ⟨"TypedBloodModel", "stock", "(III)I"⟩) := ww_1006
theorem lk_LW_208 : wd (.methodLink "TypedBloodLaw" 208 ⟨"TypedBloodModel", "expiring", "(II)I"⟩) := ww_1010
theorem lk_MO_153 : wd (.methodLink "TypedBloodModel" 153 ⟨"TypedBloodModel", "expiresIn", "(II)Z"⟩) := ww_1014
theorem lk_LW_211 : wd (.methodLink "TypedBloodLaw" 211 ⟨"TypedBloodModel", "lookback", "(II)I"⟩) := ww_1018
theorem lk_MO_156 : wd (.methodLink "TypedBloodModel" 156 ⟨"TypedBloodModel", "firstIssue", "(II)I"⟩) := ww_1022
theorem lk_LW_214 : wd (.methodLink "TypedBloodLaw" 214 ⟨"TypedBloodModel", "received", "(II)I"⟩) := ww_1026
theorem lk_LW_217 : wd (.methodLink "TypedBloodLaw" 217 ⟨"TypedBloodModel", "count", "(II)I"⟩) := ww_1030
theorem w_m1 : wd (.static Lib.Math.min.name) := ww_388
theorem w_m2 : wd (.initialized "java/lang/Math") := ww_43
theorem w_m3 : wd (.code Lib.Math.min.name Lib.Math.min.code 2 (some .int)) := ww_389
theorem w_ao_3 : wd (.arrayOver (.object "TypedBlood$Unit")) := ww_57
theorem w_ao_4 : wd (.arrayOver (.object "TypedBlood$Patient")) := ww_59
theorem w_ac_int : wd (.arrayClass .int) := ww_76
theorem w_ac_long : wd (.arrayClass .long) := ww_1034
end
section
/-! the throws (by program) -/
theorem th_all {L : List Cond} (q : L.all (fun w => decide (w ∈ lw_tbl) && gw w) = true) : ∀ w ∈ L, wd w := fun w hw => by
  have h1 := List.all_eq_true.mp q w hw
  simp only [Bool.and_eq_true, decide_eq_true_eq] at h1
  exact h1
theorem th_no {L : List Cond} (q : L.all (fun w => match w with | .arrayOver _ => false | _ => true) = true) : ∀ ty, Cond.arrayOver ty ∉ L := fun ty hw => by
  have h1 := List.all_eq_true.mp q _ hw
  cases h1
theorem ta_TB_35_0 : ∀ w ∈ ev_at "TypedBlood" 35 (xN 0) (xIx 0) (xRx 0) (xS 0), wd w := th_all (by decide +kernel)
theorem th_TB_31_33_35 : thr "TypedBlood" 31 33 35 "minutes must be 0 .. 50000" 0 := ⟨by decide, ww_111, ww_38, List.mem_of_getElem? (i := 154) (by decide +kernel), ta_TB_35_0, by decide +kernel, by decide +kernel, th_no (by decide +kernel)⟩
theorem th_TB_31_55_35 : thr "TypedBlood" 31 55 35 "no such donor, kind, group or rhesus" 0 := ⟨by decide, ww_111, ww_38, List.mem_of_getElem? (i := 203) (by decide +kernel), ta_TB_35_0, by decide +kernel, by decide +kernel, th_no (by decide +kernel)⟩
theorem th_TB_31_58_35 : thr "TypedBlood" 31 58 35 "life must be 1 .. 60000" 0 := ⟨by decide, ww_111, ww_38, List.mem_of_getElem? (i := 205) (by decide +kernel), ta_TB_35_0, by decide +kernel, by decide +kernel, th_no (by decide +kernel)⟩
theorem ta_TB_68_1 : ∀ w ∈ ev_at "TypedBlood" 68 (xN 1) (xIx 1) (xRx 1) (xS 1), wd w := th_all (by decide +kernel)
theorem th_TB_64_66_68 : thr "TypedBlood" 64 66 68 "there are 48 units" 1 := ⟨by decide, ww_210, ww_39, List.mem_of_getElem? (i := 219) (by decide +kernel), ta_TB_68_1, by decide +kernel, by decide +kernel, th_no (by decide +kernel)⟩
theorem th_TB_31_80_35 : thr "TypedBlood" 31 80 35 "no such antigen or value" 0 := ⟨by decide, ww_111, ww_38, List.mem_of_getElem? (i := 328) (by decide +kernel), ta_TB_35_0, by decide +kernel, by decide +kernel, th_no (by decide +kernel)⟩
theorem th_TB_64_85_68 : thr "TypedBlood" 64 85 68 "the unit is not stored" 1 := ⟨by decide, ww_210, ww_39, List.mem_of_getElem? (i := 329) (by decide +kernel), ta_TB_68_1, by decide +kernel, by decide +kernel, th_no (by decide +kernel)⟩
theorem th_TB_31_91_35 : thr "TypedBlood" 31 91 35 "no such how" 0 := ⟨by decide, ww_111, ww_38, List.mem_of_getElem? (i := 342) (by decide +kernel), ta_TB_35_0, by decide +kernel, by decide +kernel, th_no (by decide +kernel)⟩
theorem th_TB_64_97_68 : thr "TypedBlood" 64 97 68 "the unit is not ready, or there would be more than 48" 1 := ⟨by decide, ww_210, ww_39, List.mem_of_getElem? (i := 359) (by decide +kernel), ta_TB_68_1, by decide +kernel, by decide +kernel, th_no (by decide +kernel)⟩
theorem ta_TB_109_3 : ∀ w ∈ ev_at "TypedBlood" 109 (xN 3) (xIx 3) (xRx 3) (xS 3), wd w := th_all (by decide +kernel)
theorem th_TB_105_107_109 : thr "TypedBlood" 105 107 109 "not for a unit of this kind" 3 := ⟨by decide, ww_363, ww_42, List.mem_of_getElem? (i := 372) (by decide +kernel), ta_TB_109_3, by decide +kernel, by decide +kernel, th_no (by decide +kernel)⟩
theorem th_TB_31_124_35 : thr "TypedBlood" 31 124 35 "a unit is not pooled with itself" 0 := ⟨by decide, ww_111, ww_38, List.mem_of_getElem? (i := 401) (by decide +kernel), ta_TB_35_0, by decide +kernel, by decide +kernel, th_no (by decide +kernel)⟩
theorem th_TB_64_126_68 : thr "TypedBlood" 64 126 68 "a unit is not ready, or there are 48" 1 := ⟨by decide, ww_210, ww_39, List.mem_of_getElem? (i := 402) (by decide +kernel), ta_TB_68_1, by decide +kernel, by decide +kernel, th_no (by decide +kernel)⟩
theorem th_TB_105_134_109 : thr "TypedBlood" 105 134 109 "not platelets of one group and rhesus" 3 := ⟨by decide, ww_363, ww_42, List.mem_of_getElem? (i := 403) (by decide +kernel), ta_TB_109_3, by decide +kernel, by decide +kernel, th_no (by decide +kernel)⟩
theorem th_TB_64_143_68 : thr "TypedBlood" 64 143 68 "there are 10 patients" 1 := ⟨by decide, ww_210, ww_39, List.mem_of_getElem? (i := 415) (by decide +kernel), ta_TB_68_1, by decide +kernel, by decide +kernel, th_no (by decide +kernel)⟩
theorem th_TB_31_150_35 : thr "TypedBlood" 31 150 35 "no such group or rhesus" 0 := ⟨by decide, ww_111, ww_38, List.mem_of_getElem? (i := 460) (by decide +kernel), ta_TB_35_0, by decide +kernel, by decide +kernel, th_no (by decide +kernel)⟩
theorem th_TB_64_155_68 : thr "TypedBlood" 64 155 68 "the patient is locked" 1 := ⟨by decide, ww_210, ww_39, List.mem_of_getElem? (i := 461) (by decide +kernel), ta_TB_68_1, by decide +kernel, by decide +kernel, th_no (by decide +kernel)⟩
theorem th_TB_64_161_68 : thr "TypedBlood" 64 161 68 "the patient is not locked" 1 := ⟨by decide, ww_210, ww_39, List.mem_of_getElem? (i := 473) (by decide +kernel), ta_TB_68_1, by decide +kernel, by decide +kernel, th_no (by decide +kernel)⟩
theorem th_TB_31_166_35 : thr "TypedBlood" 31 166 35 "no such antigen" 0 := ⟨by decide, ww_111, ww_38, List.mem_of_getElem? (i := 485) (by decide +kernel), ta_TB_35_0, by decide +kernel, by decide +kernel, th_no (by decide +kernel)⟩
theorem th_TB_31_177_35 : thr "TypedBlood" 31 177 35 "marks must be 0 .. 7" 0 := ⟨by decide, ww_111, ww_38, List.mem_of_getElem? (i := 499) (by decide +kernel), ta_TB_35_0, by decide +kernel, by decide +kernel, th_no (by decide +kernel)⟩
theorem th_TB_64_186_68 : thr "TypedBlood" 64 186 68 "the unit is neither stored nor reserved" 1 := ⟨by decide, ww_210, ww_39, List.mem_of_getElem? (i := 511) (by decide +kernel), ta_TB_68_1, by decide +kernel, by decide +kernel, th_no (by decide +kernel)⟩
theorem th_TB_105_188_109 : thr "TypedBlood" 105 188 109 "the unit is no red cells" 3 := ⟨by decide, ww_363, ww_42, List.mem_of_getElem? (i := 512) (by decide +kernel), ta_TB_109_3, by decide +kernel, by decide +kernel, th_no (by decide +kernel)⟩
theorem th_TB_64_193_68 : thr "TypedBlood" 64 193 68 "the unit is not ready, or the patient is locked" 1 := ⟨by decide, ww_210, ww_39, List.mem_of_getElem? (i := 524) (by decide +kernel), ta_TB_68_1, by decide +kernel, by decide +kernel, th_no (by decide +kernel)⟩
theorem th_TB_105_199_109 : thr "TypedBlood" 105 199 109 "a rule or the crossmatch forbids it" 3 := ⟨by decide, ww_363, ww_42, List.mem_of_getElem? (i := 547) (by decide +kernel), ta_TB_109_3, by decide +kernel, by decide +kernel, th_no (by decide +kernel)⟩
theorem th_TB_64_207_68 : thr "TypedBlood" 64 207 68 "the unit is not reserved" 1 := ⟨by decide, ww_210, ww_39, List.mem_of_getElem? (i := 559) (by decide +kernel), ta_TB_68_1, by decide +kernel, by decide +kernel, th_no (by decide +kernel)⟩
theorem th_TB_64_222_68 : thr "TypedBlood" 64 222 68 "the unit or the patient is not in a state for it" 1 := ⟨by decide, ww_210, ww_39, List.mem_of_getElem? (i := 576) (by decide +kernel), ta_TB_68_1, by decide +kernel, by decide +kernel, th_no (by decide +kernel)⟩
theorem th_TB_31_228_35 : thr "TypedBlood" 31 228 35 "doctor must be 1 .. 999" 0 := ⟨by decide, ww_111, ww_38, List.mem_of_getElem? (i := 596) (by decide +kernel), ta_TB_35_0, by decide +kernel, by decide +kernel, th_no (by decide +kernel)⟩
theorem th_TB_105_239_109 : thr "TypedBlood" 105 239 109 "a rule forbids it, or it is not for emergencies" 3 := ⟨by decide, ww_363, ww_42, List.mem_of_getElem? (i := 601) (by decide +kernel), ta_TB_109_3, by decide +kernel, by decide +kernel, th_no (by decide +kernel)⟩
theorem th_TB_64_244_68 : thr "TypedBlood" 64 244 68 "the unit is not issued, or was away for too long" 1 := ⟨by decide, ww_210, ww_39, List.mem_of_getElem? (i := 609) (by decide +kernel), ta_TB_68_1, by decide +kernel, by decide +kernel, th_no (by decide +kernel)⟩
theorem th_TB_64_246_68 : thr "TypedBlood" 64 246 68 "the unit is not issued" 1 := ⟨by decide, ww_210, ww_39, List.mem_of_getElem? (i := 617) (by decide +kernel), ta_TB_68_1, by decide +kernel, by decide +kernel, th_no (by decide +kernel)⟩
theorem th_TB_31_248_35 : thr "TypedBlood" 31 248 35 "reason must be 1 .. 5" 0 := ⟨by decide, ww_111, ww_38, List.mem_of_getElem? (i := 625) (by decide +kernel), ta_TB_35_0, by decide +kernel, by decide +kernel, th_no (by decide +kernel)⟩
theorem th_TB_64_250_68 : thr "TypedBlood" 64 250 68 "the unit is not stored, reserved or issued" 1 := ⟨by decide, ww_210, ww_39, List.mem_of_getElem? (i := 626) (by decide +kernel), ta_TB_68_1, by decide +kernel, by decide +kernel, th_no (by decide +kernel)⟩
theorem th_TB_31_255_35 : thr "TypedBlood" 31 255 35 "no such donor" 0 := ⟨by decide, ww_111, ww_38, List.mem_of_getElem? (i := 638) (by decide +kernel), ta_TB_35_0, by decide +kernel, by decide +kernel, th_no (by decide +kernel)⟩
theorem ta_TB_279_4 : ∀ w ∈ ev_at "TypedBlood" 279 (xN 4) (xIx 4) (xRx 4) (xS 4), wd w := th_all (by decide +kernel)
theorem th_TB_275_277_279 : thr "TypedBlood" 275 277 279 "no such what" 4 := ⟨by decide, ww_647, ww_47, List.mem_of_getElem? (i := 656) (by decide +kernel), ta_TB_279_4, by decide +kernel, by decide +kernel, th_no (by decide +kernel)⟩
theorem th_TB_275_166_279 : thr "TypedBlood" 275 166 279 "no such antigen" 4 := ⟨by decide, ww_647, ww_47, List.mem_of_getElem? (i := 485) (by decide +kernel), ta_TB_279_4, by decide +kernel, by decide +kernel, th_no (by decide +kernel)⟩
theorem th_TB_31_285_35 : thr "TypedBlood" 31 285 35 "no such kind" 0 := ⟨by decide, ww_111, ww_38, List.mem_of_getElem? (i := 695) (by decide +kernel), ta_TB_35_0, by decide +kernel, by decide +kernel, th_no (by decide +kernel)⟩
theorem th_TB_31_296_35 : thr "TypedBlood" 31 296 35 "no such kind, group or rhesus" 0 := ⟨by decide, ww_111, ww_38, List.mem_of_getElem? (i := 715) (by decide +kernel), ta_TB_35_0, by decide +kernel, by decide +kernel, th_no (by decide +kernel)⟩
theorem th_TB_31_298_35 : thr "TypedBlood" 31 298 35 "minutes must be 0 .. 60000" 0 := ⟨by decide, ww_111, ww_38, List.mem_of_getElem? (i := 723) (by decide +kernel), ta_TB_35_0, by decide +kernel, by decide +kernel, th_no (by decide +kernel)⟩
theorem th_TB_31_313_35 : thr "TypedBlood" 31 313 35 "no such kind or state" 0 := ⟨by decide, ww_111, ww_38, List.mem_of_getElem? (i := 749) (by decide +kernel), ta_TB_35_0, by decide +kernel, by decide +kernel, th_no (by decide +kernel)⟩
theorem ta_TB_319_2 : ∀ w ∈ ev_at "TypedBlood" 319 (xN 2) (xIx 2) (xRx 2) (xS 2), wd w := th_all (by decide +kernel)
theorem th_TB_315_317_319 : thr "TypedBlood" 315 317 319 "no such unit" 2 := ⟨by decide, ww_312, ww_41, List.mem_of_getElem? (i := 321) (by decide +kernel), ta_TB_319_2, by decide +kernel, by decide +kernel, th_no (by decide +kernel)⟩
theorem th_TB_315_320_319 : thr "TypedBlood" 315 320 319 "no such patient" 2 := ⟨by decide, ww_312, ww_41, List.mem_of_getElem? (i := 459) (by decide +kernel), ta_TB_319_2, by decide +kernel, by decide +kernel, th_no (by decide +kernel)⟩
end
section
/-! rows that come out of others; loops; what is always referred to -/
def lin : List (Nat × ev_V) → List (Nat × ev_V) → Prop
  | [], _ => True
  | (i, v) :: t, ls => lget ls i = some v ∧ lin t ls
theorem lsub0 (ls : List (Nat × ev_V)) : ∀ (l : List (Nat × ev_V)), lin l ls → ∀ i v, lget l i = some v → lget ls i = some v
  | [], _, _, _, z => nomatch z
  | (j, w) :: t, q, i, v, z => by
    have q1 : lget ls j = some w := And.left q
    have q2 : lin t ls := And.right q
    by_cases hj : j = i
    · subst hj
      have e : lget ((j, w) :: t) j = some w := by
        show cond (Nat.beq j j) _ _ = _
        rw [Nat.beq_refl]; rfl
      rw [e] at z
      cases z
      exact q1
    · have e : lget ((j, w) :: t) i = lget t i := by
        show cond (Nat.beq j i) _ _ = _
        rw [nbq hj]; rfl
      rw [e] at z
      exact lsub0 ls t q2 i v z
theorem lsub {l ls : List (Nat × ev_V)} (q : lin l ls) : ∀ i v, lget l i = some v → lget ls i = some v := lsub0 ls l q
theorem nar_b {x : Int32} (q : x = 0 ∨ x = 1) : narrow .boolean (.int x) = .int x := by
  rcases q with rfl | rfl <;> rfl
section EvM
variable {E : ev_E} {M : ev_M} {pc : Nat} {ls : List (Nat × ev_V)} {st : List ev_V} {h : ev_H} {P : Option ev_V ⊕ Nat → ev_H → Prop}
theorem Ev_iushr {x y v : Int32} (hd : decode (mB M) pc = .ok (.iushr, 1)) (hv : (x.toUInt32 >>> (y &&& 31).toUInt32).toInt32 = v) (k : Ev E M (pc + 1) ls (vI v :: st) h P) : Ev E M pc ls (vI y :: vI x :: st) h P := by
  intro p e R s m args below meth c H locs cells slots lsA ad ad0 h0 hC hL hS
  exact lv_iushr hC.ex hC.cd hd hv (k p e R s m args below meth c H locs cells slots lsA ad ad0 h0 hC hL (lvS_i (lvS_2 (lvS_2 hS))))
/-- Math.min -/
theorem Ev_min {idx : Nat} {x y : Int32} (hd : decode (mB M) pc = .ok (.invokestatic idx, 3)) (hl : wd (.methodLink (mY M).cls idx Lib.Math.min.name)) (w1 : wd (.static Lib.Math.min.name)) (w2 : wd (.initialized "java/lang/Math")) (w3 : wd (.code Lib.Math.min.name Lib.Math.min.code 2 (some .int))) (hw : Nat.ble (wt st) 8 = true) (k : Ev E M (pc + 3) ls (vI (if y < x then y else x) :: st) h P) : Ev E M pc ls (vI y :: vI x :: st) h P := by
  intro p e R s m args below meth c H locs cells slots lsA ad ad0 h0 hC hL hS
  have i12 := hC.2.1.2.2.2.2.2.2.2.2.2.2.2.1
  have i13 := hC.2.1.2.2.2.2.2.2.2.2.2.2.2.2.1
  have i14 := hC.2.1.2.2.2.2.2.2.2.2.2.2.2.2.2.1
  have i15 := hC.2.1.2.2.2.2.2.2.2.2.2.2.2.2.2.2
  have r1 := hC.2.2.1.1
  have r2 := hC.2.2.1.2.1
  have z2 := hC.2.2.2.2.1
  have z3 := hC.2.2.2.2.2.1
  have hw8 : wt st ≤ 8 := by simpa using hw
  exact va_mmin hC.ex hC.cd (hC.ml.trans hL.sz.symm) hC.own (hC.w hl args) (hC.w w1 args) (hC.w w2 args) (hC.w w3 args) (by omega) (by rw [cv_wt]; omega) (by omega) (by omega) hd (k p e R s m args below meth c H locs cells slots lsA ad ad0 h0 hC hL (lvS_i (lvS_2 (lvS_2 hS))))
theorem Ev_tab {i : Nat} {x : Int32} (hd : decode (mB M) pc = .ok (.iaload, 1)) (hi : i = 1 ∨ i = 2) (h1 : ¬ x < 0) (h2 : x.toNatClampNeg < 4) (kk : Ev E M (pc + 1) ls (vI (tab i x.toNatClampNeg) :: st) h P) : Ev E M pc ls (vI x :: vR 5 i :: st) h P := by
  intro p e R s m args below meth c H locs cells slots lsA ad ad0 h0 hC hL hS
  obtain ⟨t1, t2, t3⟩ := hC.1.2.2.2.2.2.2.2.2.2
  have hb : Nat.blt i 3 = true := by rcases hi with rfl | rfl <;> rfl
  refine Ev_ialdO (x := x) (i := i) hd hb h1 ?_ ?_ p e R s m args below meth c H locs cells slots lsA ad ad0 h0 hC hL hS
  · rcases hi with rfl | rfl
    · rw [t1]; exact h2
    · rw [t2]; exact h2
  · have e : eX E i x.toNatClampNeg = tab i x.toNatClampNeg := by
      rcases hi with rfl | rfl
      · exact (t3 _ h2).1
      · exact (t3 _ h2).2
    rw [e]
    exact kk
/-- places by a number -/
theorem Ev_ialdJ {k i n j : Nat} {x : Int32} (hd : decode (mB M) pc = .ok (.iaload, 1)) (hk : Nat.blt k 4 = true) (hs : shp k i = (1, n)) (h1 : ¬ x < 0) (hj : x.toNatClampNeg = j) (h2 : j < n) (kk : Ev E M (pc + 1) ls (vI (gI h k i j) :: st) h P) : Ev E M pc ls (vI x :: vR k i :: st) h P := by
  subst hj
  exact Ev_iald hd hk hs h1 h2 kk
theorem Ev_iastJ {k i n j : Nat} {x v : Int32} (hd : decode (mB M) pc = .ok (.iastore, 1)) (hk : Nat.blt k 4 = true) (hs : shp k i = (1, n)) (h1 : ¬ x < 0) (hj : x.toNatClampNeg = j) (h2 : j < n) (kk : Ev E M (pc + 1) ls st (sI h k i j v) P) : Ev E M pc ls (vI v :: vI x :: vR k i :: st) h P := by
  subst hj
  exact Ev_iast hd hk hs h1 h2 kk
theorem Ev_aaldJ {k i t n j : Nat} {x : Int32} {v : ev_V} (hd : decode (mB M) pc = .ok (.aaload, 1)) (hk : Nat.blt k 4 = true) (hs : shp k i = (t, n)) (ht : t = 3 ∨ t = 4) (h1 : ¬ x < 0) (hj : x.toNatClampNeg = j) (h2 : j < n) (hv : gR h k i j = v) (kk : Ev E M (pc + 1) ls (v :: st) h P) : Ev E M pc ls (vI x :: vR k i :: st) h P := by
  subst hj
  exact Ev_aald hd hk hs ht h1 h2 hv kk
/-- a loop of n rounds -/
theorem Ev_for (n : Nat) (Ls : Nat → List (Nat × ev_V)) (Hs : Nat → ev_H) (step : ∀ a, a < n → Ev E M pc (Ls (a + 1)) [] (Hs (a + 1)) P → Ev E M pc (Ls a) [] (Hs a) P) (fin : Ev E M pc (Ls n) [] (Hs n) P) : Ev E M pc (Ls 0) [] (Hs 0) P := by
  have key : ∀ d, d ≤ n → Ev E M pc (Ls (n - d)) [] (Hs (n - d)) P := by
    intro d
    induction d with
    | zero => intro _; exact fin
    | succ d ih =>
      intro hd
      have e : n - (d + 1) + 1 = n - d := by omega
      refine step (n - (d + 1)) (by omega) ?_
      rw [e]
      exact ih (by omega)
  have := key n (Nat.le_refl _)
  rwa [Nat.sub_self] at this
end EvM
/-! numbers -/
theorem i_tn (x : Int32) : x.toNatClampNeg = x.toInt.toNat := rfl
theorem rk_b {x s : Int32} (q1 : ¬ x < 0) (q2 : ¬ s ≤ x) (hs : s ≤ 48) : x.toNatClampNeg < 48 := by
  rw [Int32.lt_iff_toInt_lt] at q1
  rw [Int32.le_iff_toInt_le] at q2 hs
  rw [i_tn]
  have e0 : (0 : Int32).toInt = 0 := by decide
  have e1 : (48 : Int32).toInt = 48 := by decide
  omega
/-- the references that never move once the objects stand -/
def rfs (h : ev_H) : Prop :=
  (gR h 0 0 0 = vR 0 1 ∧ gR h 0 0 1 = vR 0 2 ∧ gR h 0 0 2 = vR 0 3 ∧ gR h 0 3 0 = vR 0 4 ∧ gR h 0 3 1 = vR 0 5) ∧
  (∀ f, f < 14 → gR h 0 6 (f + 3) = vR 0 (f + 7)) ∧ (∀ f, f < 6 → gR h 0 6 (f + 20) = vR 0 (f + 21))
theorem rf_TB_0 {h : ev_H} (q : rfs h) : gR h 0 0 0 = vR 0 1 := q.1.1
theorem rf_TB_1 {h : ev_H} (q : rfs h) : gR h 0 0 1 = vR 0 2 := q.1.2.1
theorem rf_TB_2 {h : ev_H} (q : rfs h) : gR h 0 0 2 = vR 0 3 := q.1.2.2.1
theorem rf_RK_0 {h : ev_H} (q : rfs h) : gR h 0 3 0 = vR 0 4 := q.1.2.2.2.1
theorem rf_RK_1 {h : ev_H} (q : rfs h) : gR h 0 3 1 = vR 0 5 := q.1.2.2.2.2
theorem rf_MO_3 {h : ev_H} (q : rfs h) : gR h 0 6 3 = vR 0 7 := q.2.1 0 (by decide)
theorem rf_MO_4 {h : ev_H} (q : rfs h) : gR h 0 6 4 = vR 0 8 := q.2.1 1 (by decide)
theorem rf_MO_5 {h : ev_H} (q : rfs h) : gR h 0 6 5 = vR 0 9 := q.2.1 2 (by decide)
theorem rf_MO_6 {h : ev_H} (q : rfs h) : gR h 0 6 6 = vR 0 10 := q.2.1 3 (by decide)
theorem rf_MO_7 {h : ev_H} (q : rfs h) : gR h 0 6 7 = vR 0 11 := q.2.1 4 (by decide)
theorem rf_MO_8 {h : ev_H} (q : rfs h) : gR h 0 6 8 = vR 0 12 := q.2.1 5 (by decide)
theorem rf_MO_9 {h : ev_H} (q : rfs h) : gR h 0 6 9 = vR 0 13 := q.2.1 6 (by decide)
theorem rf_MO_10 {h : ev_H} (q : rfs h) : gR h 0 6 10 = vR 0 14 := q.2.1 7 (by decide)
theorem rf_MO_11 {h : ev_H} (q : rfs h) : gR h 0 6 11 = vR 0 15 := q.2.1 8 (by decide)
theorem rf_MO_12 {h : ev_H} (q : rfs h) : gR h 0 6 12 = vR 0 16 := q.2.1 9 (by decide)
theorem rf_MO_13 {h : ev_H} (q : rfs h) : gR h 0 6 13 = vR 0 17 := q.2.1 10 (by decide)
theorem rf_MO_14 {h : ev_H} (q : rfs h) : gR h 0 6 14 = vR 0 18 := q.2.1 11 (by decide)
theorem rf_MO_15 {h : ev_H} (q : rfs h) : gR h 0 6 15 = vR 0 19 := q.2.1 12 (by decide)
theorem rf_MO_16 {h : ev_H} (q : rfs h) : gR h 0 6 16 = vR 0 20 := q.2.1 13 (by decide)
theorem rf_MO_20 {h : ev_H} (q : rfs h) : gR h 0 6 20 = vR 0 21 := q.2.2 0 (by decide)
theorem rf_MO_21 {h : ev_H} (q : rfs h) : gR h 0 6 21 = vR 0 22 := q.2.2 1 (by decide)
theorem rf_MO_22 {h : ev_H} (q : rfs h) : gR h 0 6 22 = vR 0 23 := q.2.2 2 (by decide)
theorem rf_MO_23 {h : ev_H} (q : rfs h) : gR h 0 6 23 = vR 0 24 := q.2.2 3 (by decide)
theorem rf_MO_24 {h : ev_H} (q : rfs h) : gR h 0 6 24 = vR 0 25 := q.2.2 4 (by decide)
theorem rf_MO_25 {h : ev_H} (q : rfs h) : gR h 0 6 25 = vR 0 26 := q.2.2 5 (by decide)
end
section
def h00 : ev_H := (fun _ _ _ => 0, fun _ _ _ => vN, fun _ _ _ => 0, 0, 0, 0, 0, 0)
theorem lw_law {E : ev_E} {P : Option ev_V ⊕ Nat → ev_H → Prop} (hN : eN E 0 ≤ 3072) (hP : ∀ (h : ev_H) (c t l : Nat), True → P (.inl (some (vI 1))) h) : Ev E M_LW_law 0 [(0, vR 5 0)] [] h00 P := sorry
end
section
/-! from the machine's start to the law's walk, and from its end to the claim -/
theorem ws_arI {s : State} {a : Array Value} (h : (Cond.arrayClass .int).before a s = true) : ∃ cA, ArrOfT s cA .int ∧ va_RA s cA .int := by
  obtain ⟨cA, kA, comp, h1, h2, h3⟩ := Cond.arrayClass_spec (show (Cond.arrayClass .int).holds a s none s [] = true from h)
  exact ⟨cA, fun n z => ⟨fun k h => (by cases h), kA, h2, comp, h3⟩, h1⟩
theorem ws_arL {s : State} {a : Array Value} (h : (Cond.arrayClass .long).before a s = true) : ∃ cA, ArrOfT s cA .long ∧ va_RA s cA .long := by
  obtain ⟨cA, kA, comp, h1, h2, h3⟩ := Cond.arrayClass_spec (show (Cond.arrayClass .long).holds a s none s [] = true from h)
  exact ⟨cA, fun n z => ⟨fun k h => (by cases h), kA, h2, comp, h3⟩, h1⟩
theorem ws_arO {s : State} {a : Array Value} {C : String} (h : (Cond.arrayOver (.object C)).before a s = true) : ∃ cA, ArrOfT s cA (.object C) ∧ va_RA s cA (.object C) := by
  obtain ⟨comp, cA, kA, h1, -, h2, h3, h4⟩ := Cond.arrayOver_spec (show (Cond.arrayOver (.object C)).holds a s none s [] = true from h)
  exact ⟨cA, fun n z => ⟨fun k h => (by cases h), kA, h2, comp, h3⟩, kA, comp, h2, h3, h1, h4⟩
theorem ws_kn {s : State} {a : Array Value} {C : String} {T : u_T} {N : Nat} (hts : ∀ w ∈ lw_tbl, w.before a s = true) (hin : ∀ f, f < N → u_lay C T f ∈ lw_tbl.filter goodWord) (hi : (Cond.instantiable C N).before a s = true) : ∃ (cC : ClassId) (iS : Nat → Nat), u_Kn s C T N cC iS := by
  refine u_known (ws := lw_tbl.filter goodWord) (fun w hw => hts w (List.mem_filter.mp hw).1) (fun w hw => ?_) hi
  obtain ⟨f, hf, rfl⟩ := List.mem_map.mp hw
  exact hin f (List.mem_range.mp hf)
theorem ws_K {s : State} {a : Array Value} (hts : ∀ w ∈ lw_tbl, w.before a s = true) : ∃ (D : va_G) (cc : Nat → ClassId), va_K D vC [(cc 0, .int), (cc 1, .long), (cc 2, .object "TypedBlood$Unit"), (cc 3, .object "TypedBlood$Patient")] s := by
  obtain ⟨c0, f0, k0⟩ := ws_kn hts T0_in (hts _ ww_49.1)
  obtain ⟨c1, f1, k1⟩ := ws_kn hts T1_in (hts _ ww_226.1)
  obtain ⟨c2, f2, k2⟩ := ws_kn hts T2_in (hts _ ww_416.1)
  obtain ⟨c3, f3, k3⟩ := ws_kn hts T3_in (hts _ ww_61.1)
  obtain ⟨c4, f4, k4⟩ := ws_kn hts T4_in (hts _ ww_751.1)
  obtain ⟨a0, b0⟩ := ws_arI (hts _ w_ac_int.1)
  obtain ⟨a1, b1⟩ := ws_arL (hts _ w_ac_long.1)
  obtain ⟨a2, b2⟩ := ws_arO (hts _ w_ao_3.1)
  obtain ⟨a3, b3⟩ := ws_arO (hts _ w_ao_4.1)
  refine ⟨(fun c => cond (Nat.beq c 0) c0 (cond (Nat.beq c 1) c1 (cond (Nat.beq c 2) c2 (cond (Nat.beq c 3) c3 c4))), fun c => cond (Nat.beq c 0) f0 (cond (Nat.beq c 1) f1 (cond (Nat.beq c 2) f2 (cond (Nat.beq c 3) f3 f4)))), fun c => cond (Nat.beq c 0) a0 (cond (Nat.beq c 1) a1 (cond (Nat.beq c 2) a2 a3)), fun c q hq => ?_, fun c q hq => ?_⟩
  · have hc : c < 5 := (List.getElem?_eq_some_iff.mp hq).1
    rcases ev_five hc with rfl | rfl | rfl | rfl | rfl
    · cases hq; exact k0
    · cases hq; exact k1
    · cases hq; exact k2
    · cases hq; exact k3
    · cases hq; exact k4
  · have hc : c < 4 := (List.getElem?_eq_some_iff.mp hq).1
    have e : c = 0 ∨ c = 1 ∨ c = 2 ∨ c = 3 := by omega
    rcases e with rfl | rfl | rfl | rfl
    · cases hq; exact b0
    · cases hq; exact b1
    · cases hq; exact b2
    · cases hq; exact b3
def ws_E (l : Launch) (s : State) (b L : Nat) (xs : Nat → Int32) (D : va_G) (cc : Nat → ClassId) (t1 t2 : Nat) : ev_E := (l, s, #[Value.ref b], D, cc, fun i => cond (Nat.beq i 0) b (cond (Nat.beq i 1) t1 t2), fun i => cond (Nat.beq i 0) L 4, fun i j => cond (Nat.beq i 0) (xs j) (tab i j))
theorem ws_G {l : Launch} {s : State} {b L : Nat} {xs : Nat → Int32} {D : va_G} {cc : Nat → ClassId} {t1 t2 : Nat} (hst : l.stackTraces = false) (hts : ∀ w ∈ lw_tbl, w.before #[Value.ref b] s = true)
    (hK : va_K D vC [(cc 0, .int), (cc 1, .long), (cc 2, .object "TypedBlood$Unit"), (cc 3, .object "TypedBlood$Patient")] s) (hX : va_X b L xs s s.heap)
    (hT1 : va_T .int t1 4 (fun j => .int (tab 1 j)) (fun q => s.heap.size ≤ q) s s.heap) (hT2 : va_T .int t2 4 (fun j => .int (tab 2 j)) (fun q => s.heap.size ≤ q) s s.heap)
    (hZ1 : va_Z "TypedBlood" "ADDED_MARK" "[I" (.ref t1) (fun q => s.heap.size ≤ q) s s.heap) (hZ2 : va_Z "TypedBlood" "PRODUCT_LIMIT" "[I" (.ref t2) (fun q => s.heap.size ≤ q) s s.heap)
    (hU : vx_Zq Bundle.tN "UNASSIGNED_STACK" Bundle.steD (fun q => s.heap.size ≤ q) s s.heap) (hN : vx_Zq Bundle.tN "SUPPRESSED_SENTINEL" Bundle.listD (fun q => s.heap.size ≤ q) s s.heap)
    (hNc : ∀ x y, x < 5 → y < 5 → x ≠ y → va_Nc (xN x) (xN y) s) : ev_G (ws_E l s b L xs D cc t1 t2) := by
  refine ⟨hst, hts, hK, fun i hi => ?_, fun i hi => ?_, hU, hN, fun own is text hw => ?_, hNc, rfl, rfl, fun j hj => ⟨rfl, rfl⟩⟩
  · have e : i = 0 ∨ i = 1 ∨ i = 2 := by omega
    rcases e with rfl | rfl | rfl
    · obtain ⟨scr, h1, h2, h3, h4, h5⟩ := hX
      have hb : b < s.heap.size := (Array.getElem?_eq_some_iff.mp h1).1
      exact ⟨hb, scr, h1, h2, h3, Nat.le_of_eq h4.symm, congrArg Int32.ofNat h4, h5, Nat.not_le.mpr hb⟩
    · obtain ⟨cell, q1, q2, q3, q4, q5, q6, q7⟩ := hT1
      exact ⟨Nat.not_le.mp q7, cell, q1, q2, q3, q4, q5, q6, q7⟩
    · obtain ⟨cell, q1, q2, q3, q4, q5, q6, q7⟩ := hT2
      exact ⟨Nat.not_le.mp q7, cell, q1, q2, q3, q4, q5, q6, q7⟩
  · have e : i = 0 ∨ i = 1 := by omega
    rcases e with rfl | rfl
    · exact hZ1
    · exact hZ2
  · have h : (Cond.stringRef own is text).holds #[Value.ref b] s none s [] = true := hts _ hw
    cases hf : s.vm.findClass own with
    | none =>
      exfalso
      simp [Cond.holds, Cond.value, hf] at h
    | some cur =>
      obtain ⟨-, -, -, sa, -, -, -, -, -, hev⟩ := Cond.stringRef_spec hf h
      exact ⟨sa, vk_R.of (hts _ hw) hev⟩
theorem cnt_h00 (k : Nat) : cnt h00 k = 0 := by
  unfold cnt
  cases Nat.beq k 0 <;> cases Nat.beq k 1 <;> cases Nat.beq k 2 <;> rfl
/-! THE CLAIM OUT OF ONE WALK OF THE LAW'S BODY. -/
def R_law : String := "TypedBloodLaw"
def lw_P (b : Addr) (xs : List Int32) (args : Array Value) (s : State) : Prop := args = #[.ref b] ∧ s.IntsAt b xs ∧ xs.length ≤ 3072 ∧ (Jvm.Cond.and given_1 narrow_1).before args s = true
def lw_Q (_ : Array Value) (s : State) (o : Outcome) (t : State) : Prop := o = .returned (some (.int 1)) ∧ Framed s o t [] 601024 7293034
def lw_Z (below : List Frame) (a : Array Value) (s : State) : State → Prop := fun t => ∃ o, t.status = .running ∧ Ended t below o ∧ lw_Q a s o t
theorem ws_run {p : Program} {e : Env} {s : State} {m : MethodId} {below : List Frame} {meth : Method} {c : Code} {l : Launch} {b L : Nat} {xs : Nat → Int32} {D : va_G} {cc : Nat → ClassId} {t1 t2 : Nat} (hG : ev_G (ws_E l s b L xs D cc t1 t2)) (hL : L ≤ 3072) (hx : p.tables.exec = Jvm.exec) (hcode : c.code = code) (hret : meth.sig.returnType = ret) (hml : c.maxLocals = 7) (hown : s.vm.findClass R_law = some m.cls) (hlk : meth.locks = false) (htab : c.exceptionTable.toList = tableOf []) (hnm : meth.name = "law") :
    W p l e room_1 s m #[Value.ref b] below meth c s.heap [] 0 0 (lw_Z below #[Value.ref b] s) (entryFrame m ([Value.ref b] : List Value).toArray 7) := by
  have hI : ev_I (ws_E l s b L xs D cc t1 t2) M_LW_law p room_1 s m meth c := ⟨hx, hcode, hret, hml, hown, hnm, hlk, htab, State.WarmedH.refl s, fun q _ => rfl, Nat.le_refl _, by decide, by decide, Nat.add_le_add_left (show ZM ≤ room_1.cells by decide) s.heap.size, by
    show 512 * (s.heap.size + 4096 - s.heap.size) ≤ 7293034
    omega⟩
  have hR : Rl (ws_E l s b L xs D cc t1 t2) (fun _ i => eO (ws_E l s b L xs D cc t1 t2) i) h00 s.heap := ⟨rfl, by decide, fun q _ => rfl, fun i _ => rfl, fun k i _ hi => by rw [cnt_h00] at hi; omega, fun k i k' i' _ _ hi => by rw [cnt_h00] at hi; omega⟩
  have hC : ev_C (ws_E l s b L xs D cc t1 t2) M_LW_law p room_1 s m meth c s.heap [] 0 0 (fun _ i => eO (ws_E l s b L xs D cc t1 t2) i) (fun _ i => eO (ws_E l s b L xs D cc t1 t2) i) h00 h00 := ⟨hG, hI, hR, Nat.le_refl _, by omega, by omega, (fun q hq => nomatch hq), xt.rf⟩
  have hev := lw_law (E := ws_E l s b L xs D cc t1 t2) (P := fun r _ => r = .inl (some (vI 1))) hL (fun _ _ _ _ _ => rfl)
  have hm : ([vR 5 0] : List ev_V).map (cv (fun _ i => eO (ws_E l s b L xs D cc t1 t2) i)) = [Value.ref b] := rfl
  have hen := lv_entry (([vR 5 0] : List ev_V).map (cv (fun _ i => eO (ws_E l s b L xs D cc t1 t2) i))) (n := 7) (by rw [ev_sl _ rfl]; decide)
  have w := hev p e room_1 s m #[Value.ref b] below meth c s.heap [] 0 0 _ (fun _ i => eO (ws_E l s b L xs D cc t1 t2) i) (fun _ i => eO (ws_E l s b L xs D cc t1 t2) i) h00 hC ⟨_, hen, ev_entry [vR 5 0] 0 rfl ⟨Or.inr (Or.inl ⟨rfl, by decide⟩), trivial⟩⟩ trivial
  rw [hm] at w
  rw [lg_entry_eq]
  refine W.mono (fun t q => ?_) w
  obtain ⟨o, a1, a2, r, h', ad', b1, ⟨Lc, b2, b3⟩, b4, b5, b6, b7⟩ := q
  subst b7
  have b61 : o = .returned (some (.int 1)) := b6.1
  have hz : t.heap.size = s.heap.size + cZ h' := b4.1
  have hz2 : cZ h' ≤ 4096 := b4.2.1
  refine ⟨o, a1, a2, b61, ⟨_, b61⟩, b1, b2.weaken (fun y hy hlt => absurd (b3 y hy) (Nat.not_le.mpr hlt)) (by omega) (by omega)⟩
/-- what holds at the law's entry -/
def lw_At (p : Program) (s : State) (m : MethodId) (meth : Method) (c : Code) (b L : Nat) (xs : Nat → Int32) : Prop :=
  p.tables.exec = Jvm.exec ∧ c.code = code ∧ meth.sig.returnType = ret ∧ c.maxLocals = 7 ∧ s.vm.findClass R_law = some m.cls ∧ (∀ w ∈ lw_tbl, w.before #[Value.ref b] s = true) ∧ va_X b L xs s s.heap ∧ b < s.heap.size ∧ meth.locks = false ∧ (Jvm.Cond.and given_1 narrow_1).before #[Value.ref b] s = true
theorem ws_t1 {s : State} {a : Array Value} (hts : ∀ w ∈ lw_tbl, w.before a s = true) (hs : ∀ w ∈ flatC (Jvm.Cond.and given_1 narrow_1), w.before a s = true) : ∃ t, va_T .int t 4 (fun j => .int (tab 1 j)) (fun q => s.heap.size ≤ q) s s.heap ∧ va_Z "TypedBlood" "ADDED_MARK" "[I" (.ref t) (fun q => s.heap.size ≤ q) s s.heap := by
  have hA : ∀ q : Nat, q < s.heap.size → ¬ s.heap.size ≤ q := fun q h => Nat.not_le.mpr h
  have hlen := va_eqt (hs (.eq (.length (.static "TypedBlood" "ADDED_MARK" "[I")) (.int 4)) (by decide +kernel))
  have e0 := va_eqt (hs (.eq (.elem (.static "TypedBlood" "ADDED_MARK" "[I") (.int 0)) (.int 0)) (by decide +kernel))
  have e1 := va_eqt (hs (.eq (.elem (.static "TypedBlood" "ADDED_MARK" "[I") (.int 1)) (.int 1)) (by decide +kernel))
  have e2 := va_eqt (hs (.eq (.elem (.static "TypedBlood" "ADDED_MARK" "[I") (.int 2)) (.int 2)) (by decide +kernel))
  have e3 := va_eqt (hs (.eq (.elem (.static "TypedBlood" "ADDED_MARK" "[I") (.int 3)) (.int 4)) (by decide +kernel))
  obtain ⟨t, ht, hT⟩ := va_Tof (tm := (.static "TypedBlood" "ADDED_MARK" "[I")) (ty := .int) (N := 4) (f := fun j => .int (tab 1 j)) (A := fun q => s.heap.size ≤ q) (by decide) (hs (.arrayOf (.static "TypedBlood" "ADDED_MARK" "[I") .int) (by decide +kernel)) hlen (fun j hj => by
    have e : j = 0 ∨ j = 1 ∨ j = 2 ∨ j = 3 := by omega
    rcases e with rfl | rfl | rfl | rfl
    · exact e0
    · exact e1
    · exact e2
    · exact e3) hA
  exact ⟨t, hT, va_Zref (hts (.laysStatic "TypedBlood" "ADDED_MARK" "[I") (by decide +kernel)) (hts _ ww_32.1) ht hA⟩
theorem ws_t2 {s : State} {a : Array Value} (hts : ∀ w ∈ lw_tbl, w.before a s = true) (hs : ∀ w ∈ flatC (Jvm.Cond.and given_1 narrow_1), w.before a s = true) : ∃ t, va_T .int t 4 (fun j => .int (tab 2 j)) (fun q => s.heap.size ≤ q) s s.heap ∧ va_Z "TypedBlood" "PRODUCT_LIMIT" "[I" (.ref t) (fun q => s.heap.size ≤ q) s s.heap := by
  have hA : ∀ q : Nat, q < s.heap.size → ¬ s.heap.size ≤ q := fun q h => Nat.not_le.mpr h
  have hlen := va_eqt (hs (.eq (.length (.static "TypedBlood" "PRODUCT_LIMIT" "[I")) (.int 4)) (by decide +kernel))
  have e0 := va_eqt (hs (.eq (.elem (.static "TypedBlood" "PRODUCT_LIMIT" "[I") (.int 0)) (.int 7200)) (by decide +kernel))
  have e1 := va_eqt (hs (.eq (.elem (.static "TypedBlood" "PRODUCT_LIMIT" "[I") (.int 1)) (.int 1440)) (by decide +kernel))
  have e2 := va_eqt (hs (.eq (.elem (.static "TypedBlood" "PRODUCT_LIMIT" "[I") (.int 2)) (.int 20160)) (by decide +kernel))
  have e3 := va_eqt (hs (.eq (.elem (.static "TypedBlood" "PRODUCT_LIMIT" "[I") (.int 3)) (.int 1440)) (by decide +kernel))
  obtain ⟨t, ht, hT⟩ := va_Tof (tm := (.static "TypedBlood" "PRODUCT_LIMIT" "[I")) (ty := .int) (N := 4) (f := fun j => .int (tab 2 j)) (A := fun q => s.heap.size ≤ q) (by decide) (hs (.arrayOf (.static "TypedBlood" "PRODUCT_LIMIT" "[I") .int) (by decide +kernel)) hlen (fun j hj => by
    have e : j = 0 ∨ j = 1 ∨ j = 2 ∨ j = 3 := by omega
    rcases e with rfl | rfl | rfl | rfl
    · exact e0
    · exact e1
    · exact e2
    · exact e3) hA
  exact ⟨t, hT, va_Zref (hts (.laysStatic "TypedBlood" "PRODUCT_LIMIT" "[I") (by decide +kernel)) (hts _ ww_32.1) ht hA⟩
theorem ws_nc {s : State} {a : Array Value} (hs : ∀ w ∈ flatC (Jvm.Cond.and given_1 narrow_1), w.before a s = true) : ∀ x y, x < 5 → y < 5 → x ≠ y → va_Nc (xN x) (xN y) s := by
  intro x y hx hy hn
  rcases ev_five hx with rfl | rfl | rfl | rfl | rfl <;> rcases ev_five hy with rfl | rfl | rfl | rfl | rfl
  · exact absurd rfl hn
  · exact va_Nc.of (hs (.not (.castable (xN 0) (xN 1))) (by decide +kernel))
  · exact va_Nc.of (hs (.not (.castable (xN 0) (xN 2))) (by decide +kernel))
  · exact va_Nc.of (hs (.not (.castable (xN 0) (xN 3))) (by decide +kernel))
  · exact va_Nc.of (hs (.not (.castable (xN 0) (xN 4))) (by decide +kernel))
  · exact va_Nc.of (hs (.not (.castable (xN 1) (xN 0))) (by decide +kernel))
  · exact absurd rfl hn
  · exact va_Nc.of (hs (.not (.castable (xN 1) (xN 2))) (by decide +kernel))
  · exact va_Nc.of (hs (.not (.castable (xN 1) (xN 3))) (by decide +kernel))
  · exact va_Nc.of (hs (.not (.castable (xN 1) (xN 4))) (by decide +kernel))
  · exact va_Nc.of (hs (.not (.castable (xN 2) (xN 0))) (by decide +kernel))
  · exact va_Nc.of (hs (.not (.castable (xN 2) (xN 1))) (by decide +kernel))
  · exact absurd rfl hn
  · exact va_Nc.of (hs (.not (.castable (xN 2) (xN 3))) (by decide +kernel))
  · exact va_Nc.of (hs (.not (.castable (xN 2) (xN 4))) (by decide +kernel))
  · exact va_Nc.of (hs (.not (.castable (xN 3) (xN 0))) (by decide +kernel))
  · exact va_Nc.of (hs (.not (.castable (xN 3) (xN 1))) (by decide +kernel))
  · exact va_Nc.of (hs (.not (.castable (xN 3) (xN 2))) (by decide +kernel))
  · exact absurd rfl hn
  · exact va_Nc.of (hs (.not (.castable (xN 3) (xN 4))) (by decide +kernel))
  · exact va_Nc.of (hs (.not (.castable (xN 4) (xN 0))) (by decide +kernel))
  · exact va_Nc.of (hs (.not (.castable (xN 4) (xN 1))) (by decide +kernel))
  · exact va_Nc.of (hs (.not (.castable (xN 4) (xN 2))) (by decide +kernel))
  · exact va_Nc.of (hs (.not (.castable (xN 4) (xN 3))) (by decide +kernel))
  · exact absurd rfl hn
theorem whole_start {p : Program} {e : Env} {s : State} {m : MethodId} {below : List Frame} {meth : Method} {c : Code} (l : Launch) (hst : l.stackTraces = false) {b L : Nat} {xs : Nat → Int32} (hL : L ≤ 3072) (htab : c.exceptionTable.toList = tableOf []) (hnm : meth.name = "law") (C0 : lw_At p s m meth c b L xs) : W p l e room_1 s m #[Value.ref b] below meth c s.heap [] 0 0 (lw_Z below #[Value.ref b] s) (entryFrame m ([Value.ref b] : List Value).toArray 7) := by
  obtain ⟨hx, hcode, hret, hml, hown, hts, hX, hbl, hlk, hgv⟩ := C0
  have hs := flat_of_before _ hgv
  have hA : ∀ q : Nat, q < s.heap.size → ¬ s.heap.size ≤ q := fun q h => Nat.not_le.mpr h
  obtain ⟨D, cc, hK⟩ := ws_K hts
  obtain ⟨t1, hT1, hZ1⟩ := ws_t1 hts hs
  obtain ⟨t2, hT2, hZ2⟩ := ws_t2 hts hs
  have hU : vx_Zq Bundle.tN "UNASSIGNED_STACK" Bundle.steD (fun q => s.heap.size ≤ q) s s.heap := vx_Zqof (hts (.laysStatic Bundle.tN "UNASSIGNED_STACK" Bundle.steD) (by decide +kernel)) (hts (.initialized Bundle.tN) (by decide +kernel)) (hs (.isRef (.static Bundle.tN "UNASSIGNED_STACK" Bundle.steD)) (by decide +kernel)) hA
  have hN : vx_Zq Bundle.tN "SUPPRESSED_SENTINEL" Bundle.listD (fun q => s.heap.size ≤ q) s s.heap := vx_Zqof (hts (.laysStatic Bundle.tN "SUPPRESSED_SENTINEL" Bundle.listD) (by decide +kernel)) (hts (.initialized Bundle.tN) (by decide +kernel)) (hs (.isRef (.static Bundle.tN "SUPPRESSED_SENTINEL" Bundle.listD)) (by decide +kernel)) hA
  exact ws_run (ws_G hst hts hK hX hT1 hT2 hZ1 hZ2 hU hN (ws_nc hs)) hL hx hcode hret hml hown hlk htab hnm
end
section
/-! the claim -/
theorem lw_walk (l : Launch) (hst : l.stackTraces = false) (b : Addr) (xs : List Int32) : MetFree l x (headSpec (Jvm.Cond.code x code maxLocals ret :: tables_1) room_1) (lw_P b xs) (fun _ _ _ _ _ => True) lw_Q := by
  refine MetFree.of_bodyS (code := code) (maxLocals := maxLocals) (ret := ret) (by decide) ?_ ?_
  · intro args s m h hn
    obtain ⟨meth, c, h1, h2, h3, h4, h5, h6, -, -⟩ := Cond.code_spec hn (atoms_spec (ws := Jvm.Cond.code x code maxLocals ret :: tables_1) h _ List.mem_cons_self)
    exact ⟨meth, c, h1, h2, h3, h4, h5, h6⟩
  · intro p e s m args below meth c s₁ B hml0 hP _
    obtain ⟨rfl, hx, hbd, hgv⟩ := hP
    obtain ⟨scr, harrAt, hlist, hof, hsmall⟩ := hx
    obtain ⟨hcb, hkn, -, -⟩ := State.arrayAt?_spec harrAt
    have hown : s.vm.findClass R_law = some m.cls := findClass_of_methodNamed B.named
    have hts0 : ∀ c ∈ (Jvm.Cond.code x code maxLocals ret :: tables_1), c.before #[Value.ref b] s = true := atoms_spec (ws := Jvm.Cond.code x code maxLocals ret :: tables_1) B.pre
    have hts : ∀ w ∈ lw_tbl, w.before #[Value.ref b] s = true := k2_hts_sels lw_privs (fun w hw => hts0 w (List.mem_cons_of_mem _ hw)) lw_privs_ok
    have hml : c.maxLocals = 7 := B.maxLocals_eq (hts0 _ List.mem_cons_self)
    have hcw : (Cond.codeWith x code maxLocals ret []).before #[Value.ref b] s = true := by
      have h2 : (Cond.code x code maxLocals ret).holds #[Value.ref b] s none s [] = true := hts0 _ List.mem_cons_self
      show (Cond.codeWith x code maxLocals ret []).holds #[Value.ref b] s none s [] = true
      unfold Cond.holds at h2 ⊢
      rw [← Cond.code_iff_codeWith_nil]
      exact h2
    have htab : c.exceptionTable.toList = tableOf [] := vx_table (x := x) B hcw
    have hnm : meth.name = "law" := (name_of_methodNamed B.named B.method).1
    have X₀ : Stand p l e room_1 s m #[Value.ref b] below meth c s₁ [] 0 0 := Stand.of_body B
    have hh0 : s₁.heap = s.heap := by rw [B.state]; rfl
    have hsz : scr.slots.size = xs.length := by rw [← Array.length_toList, hlist, List.length_map]
    have hval : ∀ j : Nat, j < xs.length → scr.slots[j]? = some (.int (xs.getD j 0)) := fun j hj => by
      rw [← Array.getElem?_toList, hlist]
      simp [hj]
    have hbl : b < s.heap.size := (Array.getElem?_eq_some_iff.mp hcb).1
    have hX : va_X b xs.length (fun j => xs.getD j 0) s s.heap := ⟨scr, hcb, hof, hkn, hsz, hval⟩
    have K : W p l e room_1 s m #[Value.ref b] below meth c s₁.heap [] 0 0 (lw_Z below #[Value.ref b] s) (entryFrame m ([Value.ref b] : List Value).toArray 7) := by
      rw [hh0]
      exact whole_start l hst hbd htab hnm ⟨B.exec, B.bytes, B.returns, hml, hown, hts, hX, hbl, B.notSynchronized, hgv⟩
    obtain ⟨t, a1, o, b1, b2, b3⟩ := K s₁ rfl X₀
    exact ⟨t, o, a1, b1, b2, b3⟩
theorem lw_pre_spec {args : Array Value} {s : State} (h : (Jvm.Cond.and given_1 narrow_1).before args s = true) (hr : rest_1_c.before args s = true) : ∃ (b : Addr) (xs : List Int32), lw_P b xs args s := by
  have hs := flat_of_before _ h
  have hq := flat_of_before _ hr
  have hc : (Cond.count 1).before args s = true := hs _ (by decide +kernel)
  have harr : (Cond.arrayOf (.arg 0) .int).before args s = true := hs _ (by decide +kernel)
  have hle : (Cond.le (.length (.arg 0)) (.int 3072)).before args s = true := hs _ (by decide +kernel)
  have hlen : (Cond.isInt (.length (.arg 0))).before args s = true := hq _ (by decide +kernel)
  have hall : (Cond.all (.arg 0) (.isInt (.elem (.arg 0) (.index 0)))).before args s = true := hq _ (by decide +kernel)
  obtain ⟨b, xs, hb, hx⟩ := State.ints_of_pre rfl harr hlen hall
  have hsm : xs.length < 2 ^ 31 := hx.choose_spec.2.2.2
  have hev : (Term.length (.arg 0)).eval args s none [] s = some (.int xs.length.toInt32) := hx.length_eval hb
  have hv := Cond.le_ints hev (show (Term.int 3072).eval args s none [] s = some (.int 3072) from rfl)
  have hd : xs.length.toInt32 ≤ 3072 := by
    simpa [Cond.before, Cond.holds, hv] using hle
  have hN : xs.length ≤ 3072 := (Int32.ofNat_le_ofNat hsm (by decide)).mp (show Int32.ofNat xs.length ≤ Int32.ofNat 3072 from hd)
  exact ⟨b, xs, Cond.one_arg hc (show args[0]? = some (.ref b) from hb), hx, hN, h⟩
theorem lw_comes (l : Launch) (hst : l.stackTraces = false) : Comes l x (Jvm.Cond.code x code maxLocals ret :: tables_1) room_1 (fun tb e args s => Calls_1 tb e args s ∧ rest_1 tb e args s ∧ Pre_1 tb e args s)
    (fun _ _ args s o t => lw_Q args s o t) := by
  intro p e ha hc hk s m args below hf hfit hheap happ hpre
  obtain ⟨b, xs, hP⟩ := lw_pre_spec hpre.2.2 hpre.2.1
  obtain ⟨k, o, h1, h2, h3, hQ⟩ := lw_walk l hst b xs p e ha hc hk s m args below hf ((Spec.applies_iff_loose hf).mp happ).1 hP trivial
  exact ⟨k, o, h1, h2, h3, hQ⟩
theorem lw_frame {s t : State} {o : Outcome} {args : Array Value} (h : Framed s o t [] 601024 7293034) :
    Framed s o t (fieldLocs frame_1_writes args s ++ arrayLocs frame_1_arrays args s ++ staticLocs frame_1_statics s) 601024 7293034 := h
theorem lw_limb (L : Cond) (hL : ∀ (args : Array Value) (s t : State), L.after args s (.returned (some (.int 1))) t = true) :
    ArmFor flags0 classFile x code maxLocals ret World_1 tables_1 room_1 Calls_1 rest_1 Pre_1
      (fun tb e a s o t => postC L tb e a s o t ∧ Framed s o t (fieldLocs frame_1_writes a s ++ arrayLocs frame_1_arrays a s ++ staticLocs frame_1_statics s) 601024 7293034) := by
  intro l hfl _ _ p e ha hc hk s m args below hf hfit hheap happ hpre
  have hst : l.stackTraces = false := by
    unfold Launch.stackTraces
    rw [hfl]
    decide +kernel
  obtain ⟨k, o, h1, h2, h3, rfl, hF⟩ := lw_comes l hst p e ha hc hk s m args below hf hfit hheap happ hpre
  exact ⟨k, _, h1, h2, h3, hL args s _, lw_frame hF⟩
theorem i_vc : Claimed_1_1 ∧ Claimed_1_2 := ⟨lw_limb limb_1_1 (fun args s t => by simp [limb_1_1, Cond.after, Cond.holds, Cond.value]), lw_limb limb_1_2 (fun args s t => Cond.after_iff.mpr (by
  first | (rw [show limb_1_2 = Cond.eq .result (.int 1) from rfl, Cond.eq_ints (x := 1) (y := 1) rfl rfl]; simp; done) | (simp [limb_1_2, Cond.value, Term.eval]; done)))⟩
end
