section
-- ===== PART A: goes FIRST, ahead of the names: the tables' words, and 'selects' of the private methods out of them =====
/-- a private method of a class that the tables say can be made, by its rows of tables_1 -/
def lw_okq (q : MethodName × Nat) : Prop := (q.1.cls ≠ "java/lang/invoke/MethodHandle" ∧ q.1.cls ≠ "java/lang/invoke/VarHandle") ∧ Cond.instantiable q.1.cls q.2 ∈ tables_1 ∧ Cond.privateMethod q.1 ∈ tables_1 ∧ Cond.instanceMethod q.1 ∈ tables_1
theorem lw_p0 : lw_okq (⟨"java/lang/Throwable", "fillInStackTrace", "(I)Ljava/lang/Throwable;"⟩, 6) := ⟨⟨by decide +kernel, by decide +kernel⟩, List.mem_of_getElem? (i := 121) (by decide +kernel), List.mem_of_getElem? (i := 119) (by decide +kernel), List.mem_of_getElem? (i := 120) (by decide +kernel)⟩
theorem lw_p1 : lw_okq (⟨"TypedBlood", "hasRoomFor", "(I)Z"⟩, 8) := ⟨⟨by decide +kernel, by decide +kernel⟩, List.mem_of_getElem? (i := 18) (by decide +kernel), List.mem_of_getElem? (i := 176) (by decide +kernel), List.mem_of_getElem? (i := 177) (by decide +kernel)⟩
theorem lw_p2 : lw_okq (⟨"TypedBlood", "keep", "(LTypedBlood$Unit;)I"⟩, 8) := ⟨⟨by decide +kernel, by decide +kernel⟩, List.mem_of_getElem? (i := 18) (by decide +kernel), List.mem_of_getElem? (i := 266) (by decide +kernel), List.mem_of_getElem? (i := 267) (by decide +kernel)⟩
theorem lw_p3 : lw_okq (⟨"TypedBlood", "unitAt", "(I)LTypedBlood$Unit;"⟩, 8) := ⟨⟨by decide +kernel, by decide +kernel⟩, List.mem_of_getElem? (i := 18) (by decide +kernel), List.mem_of_getElem? (i := 278) (by decide +kernel), List.mem_of_getElem? (i := 279) (by decide +kernel)⟩
theorem lw_p4 : lw_okq (⟨"TypedBlood", "isReady", "(LTypedBlood$Unit;)Z"⟩, 8) := ⟨⟨by decide +kernel, by decide +kernel⟩, List.mem_of_getElem? (i := 18) (by decide +kernel), List.mem_of_getElem? (i := 313) (by decide +kernel), List.mem_of_getElem? (i := 314) (by decide +kernel)⟩
theorem lw_p5 : lw_okq (⟨"TypedBlood", "isUsable", "(LTypedBlood$Unit;)Z"⟩, 8) := ⟨⟨by decide +kernel, by decide +kernel⟩, List.mem_of_getElem? (i := 18) (by decide +kernel), List.mem_of_getElem? (i := 317) (by decide +kernel), List.mem_of_getElem? (i := 318) (by decide +kernel)⟩
theorem lw_p6 : lw_okq (⟨"TypedBlood", "keepSplitProducts", "(LTypedBlood$Unit;)I"⟩, 8) := ⟨⟨by decide +kernel, by decide +kernel⟩, List.mem_of_getElem? (i := 18) (by decide +kernel), List.mem_of_getElem? (i := 349) (by decide +kernel), List.mem_of_getElem? (i := 350) (by decide +kernel)⟩
theorem lw_p7 : lw_okq (⟨"TypedBlood", "keepProduct", "(LTypedBlood$Unit;III)I"⟩, 8) := ⟨⟨by decide +kernel, by decide +kernel⟩, List.mem_of_getElem? (i := 18) (by decide +kernel), List.mem_of_getElem? (i := 353) (by decide +kernel), List.mem_of_getElem? (i := 354) (by decide +kernel)⟩
theorem lw_p8 : lw_okq (⟨"TypedBlood", "keepPooled", "(LTypedBlood$Unit;LTypedBlood$Unit;)I"⟩, 8) := ⟨⟨by decide +kernel, by decide +kernel⟩, List.mem_of_getElem? (i := 18) (by decide +kernel), List.mem_of_getElem? (i := 374) (by decide +kernel), List.mem_of_getElem? (i := 375) (by decide +kernel)⟩
theorem lw_p9 : lw_okq (⟨"TypedBlood", "patientAt", "(I)LTypedBlood$Patient;"⟩, 8) := ⟨⟨by decide +kernel, by decide +kernel⟩, List.mem_of_getElem? (i := 18) (by decide +kernel), List.mem_of_getElem? (i := 425) (by decide +kernel), List.mem_of_getElem? (i := 426) (by decide +kernel)⟩
theorem lw_p10 : lw_okq (⟨"TypedBlood", "isCleared", "(LTypedBlood$Patient;LTypedBlood$Unit;I)Z"⟩, 8) := ⟨⟨by decide +kernel, by decide +kernel⟩, List.mem_of_getElem? (i := 18) (by decide +kernel), List.mem_of_getElem? (i := 495) (by decide +kernel), List.mem_of_getElem? (i := 496) (by decide +kernel)⟩
theorem lw_p11 : lw_okq (⟨"TypedBlood", "mayLeaveFor", "(ILTypedBlood$Unit;)Z"⟩, 8) := ⟨⟨by decide +kernel, by decide +kernel⟩, List.mem_of_getElem? (i := 18) (by decide +kernel), List.mem_of_getElem? (i := 538) (by decide +kernel), List.mem_of_getElem? (i := 539) (by decide +kernel)⟩
theorem lw_p12 : lw_okq (⟨"TypedBlood", "handOver", "(LTypedBlood$Unit;II)I"⟩, 8) := ⟨⟨by decide +kernel, by decide +kernel⟩, List.mem_of_getElem? (i := 18) (by decide +kernel), List.mem_of_getElem? (i := 547) (by decide +kernel), List.mem_of_getElem? (i := 548) (by decide +kernel)⟩
theorem lw_p13 : lw_okq (⟨"TypedBlood", "firstIssue", "(II)I"⟩, 8) := ⟨⟨by decide +kernel, by decide +kernel⟩, List.mem_of_getElem? (i := 18) (by decide +kernel), List.mem_of_getElem? (i := 701) (by decide +kernel), List.mem_of_getElem? (i := 702) (by decide +kernel)⟩
theorem lw_p14 : lw_okq (⟨"TypedBloodModel", "refused", "(ZZZZ)Z"⟩, 26) := ⟨⟨by decide +kernel, by decide +kernel⟩, List.mem_of_getElem? (i := 720) (by decide +kernel), List.mem_of_getElem? (i := 817) (by decide +kernel), List.mem_of_getElem? (i := 818) (by decide +kernel)⟩
theorem lw_p15 : lw_okq (⟨"TypedBloodModel", "add", "(IIII)I"⟩, 26) := ⟨⟨by decide +kernel, by decide +kernel⟩, List.mem_of_getElem? (i := 720) (by decide +kernel), List.mem_of_getElem? (i := 826) (by decide +kernel), List.mem_of_getElem? (i := 827) (by decide +kernel)⟩
def lw_privs_1 : List (MethodName × Nat) := [(⟨"java/lang/Throwable", "fillInStackTrace", "(I)Ljava/lang/Throwable;"⟩, 6), (⟨"TypedBlood", "hasRoomFor", "(I)Z"⟩, 8), (⟨"TypedBlood", "keep", "(LTypedBlood$Unit;)I"⟩, 8), (⟨"TypedBlood", "unitAt", "(I)LTypedBlood$Unit;"⟩, 8), (⟨"TypedBlood", "isReady", "(LTypedBlood$Unit;)Z"⟩, 8), (⟨"TypedBlood", "isUsable", "(LTypedBlood$Unit;)Z"⟩, 8), (⟨"TypedBlood", "keepSplitProducts", "(LTypedBlood$Unit;)I"⟩, 8), (⟨"TypedBlood", "keepProduct", "(LTypedBlood$Unit;III)I"⟩, 8), (⟨"TypedBlood", "keepPooled", "(LTypedBlood$Unit;LTypedBlood$Unit;)I"⟩, 8), (⟨"TypedBlood", "patientAt", "(I)LTypedBlood$Patient;"⟩, 8), (⟨"TypedBlood", "isCleared", "(LTypedBlood$Patient;LTypedBlood$Unit;I)Z"⟩, 8), (⟨"TypedBlood", "mayLeaveFor", "(ILTypedBlood$Unit;)Z"⟩, 8), (⟨"TypedBlood", "handOver", "(LTypedBlood$Unit;II)I"⟩, 8), (⟨"TypedBlood", "firstIssue", "(II)I"⟩, 8), (⟨"TypedBloodModel", "refused", "(ZZZZ)Z"⟩, 26), (⟨"TypedBloodModel", "add", "(IIII)I"⟩, 26)]
theorem lw_r1 : ∀ q ∈ lw_privs_1, lw_okq q := List.forall_mem_cons.mpr ⟨lw_p0, List.forall_mem_cons.mpr ⟨lw_p1, List.forall_mem_cons.mpr ⟨lw_p2, List.forall_mem_cons.mpr ⟨lw_p3, List.forall_mem_cons.mpr ⟨lw_p4, List.forall_mem_cons.mpr ⟨lw_p5, List.forall_mem_cons.mpr ⟨lw_p6, List.forall_mem_cons.mpr ⟨lw_p7, List.forall_mem_cons.mpr ⟨lw_p8, List.forall_mem_cons.mpr ⟨lw_p9, List.forall_mem_cons.mpr ⟨lw_p10, List.forall_mem_cons.mpr ⟨lw_p11, List.forall_mem_cons.mpr ⟨lw_p12, List.forall_mem_cons.mpr ⟨lw_p13, List.forall_mem_cons.mpr ⟨lw_p14, List.forall_mem_cons.mpr ⟨lw_p15, fun _ h => absurd h List.not_mem_nil⟩⟩⟩⟩⟩⟩⟩⟩⟩⟩⟩⟩⟩⟩⟩⟩
theorem lw_p16 : lw_okq (⟨"TypedBloodModel", "isUnit", "(I)Z"⟩, 26) := ⟨⟨by decide +kernel, by decide +kernel⟩, List.mem_of_getElem? (i := 720) (by decide +kernel), List.mem_of_getElem? (i := 834) (by decide +kernel), List.mem_of_getElem? (i := 835) (by decide +kernel)⟩
theorem lw_p17 : lw_okq (⟨"TypedBloodModel", "stateOf", "(I)I"⟩, 26) := ⟨⟨by decide +kernel, by decide +kernel⟩, List.mem_of_getElem? (i := 720) (by decide +kernel), List.mem_of_getElem? (i := 838) (by decide +kernel), List.mem_of_getElem? (i := 839) (by decide +kernel)⟩
theorem lw_p18 : lw_okq (⟨"TypedBloodModel", "isReady", "(I)Z"⟩, 26) := ⟨⟨by decide +kernel, by decide +kernel⟩, List.mem_of_getElem? (i := 720) (by decide +kernel), List.mem_of_getElem? (i := 846) (by decide +kernel), List.mem_of_getElem? (i := 847) (by decide +kernel)⟩
theorem lw_p19 : lw_okq (⟨"TypedBloodModel", "isExpired", "(I)Z"⟩, 26) := ⟨⟨by decide +kernel, by decide +kernel⟩, List.mem_of_getElem? (i := 720) (by decide +kernel), List.mem_of_getElem? (i := 850) (by decide +kernel), List.mem_of_getElem? (i := 851) (by decide +kernel)⟩
theorem lw_p20 : lw_okq (⟨"TypedBloodModel", "isBarred", "(I)Z"⟩, 26) := ⟨⟨by decide +kernel, by decide +kernel⟩, List.mem_of_getElem? (i := 720) (by decide +kernel), List.mem_of_getElem? (i := 854) (by decide +kernel), List.mem_of_getElem? (i := 855) (by decide +kernel)⟩
theorem lw_p21 : lw_okq (⟨"TypedBloodModel", "isPatient", "(I)Z"⟩, 26) := ⟨⟨by decide +kernel, by decide +kernel⟩, List.mem_of_getElem? (i := 720) (by decide +kernel), List.mem_of_getElem? (i := 873) (by decide +kernel), List.mem_of_getElem? (i := 874) (by decide +kernel)⟩
theorem lw_p22 : lw_okq (⟨"TypedBloodModel", "reasonFor", "(II)I"⟩, 26) := ⟨⟨by decide +kernel, by decide +kernel⟩, List.mem_of_getElem? (i := 720) (by decide +kernel), List.mem_of_getElem? (i := 900) (by decide +kernel), List.mem_of_getElem? (i := 901) (by decide +kernel)⟩
theorem lw_p23 : lw_okq (⟨"TypedBloodModel", "isMatched", "(II)Z"⟩, 26) := ⟨⟨by decide +kernel, by decide +kernel⟩, List.mem_of_getElem? (i := 720) (by decide +kernel), List.mem_of_getElem? (i := 904) (by decide +kernel), List.mem_of_getElem? (i := 905) (by decide +kernel)⟩
theorem lw_p24 : lw_okq (⟨"TypedBloodModel", "mayGo", "(II)Z"⟩, 26) := ⟨⟨by decide +kernel, by decide +kernel⟩, List.mem_of_getElem? (i := 720) (by decide +kernel), List.mem_of_getElem? (i := 916) (by decide +kernel), List.mem_of_getElem? (i := 917) (by decide +kernel)⟩
theorem lw_p25 : lw_okq (⟨"TypedBloodModel", "go", "(III)I"⟩, 26) := ⟨⟨by decide +kernel, by decide +kernel⟩, List.mem_of_getElem? (i := 720) (by decide +kernel), List.mem_of_getElem? (i := 920) (by decide +kernel), List.mem_of_getElem? (i := 921) (by decide +kernel)⟩
theorem lw_p26 : lw_okq (⟨"TypedBloodModel", "field", "(II)I"⟩, 26) := ⟨⟨by decide +kernel, by decide +kernel⟩, List.mem_of_getElem? (i := 720) (by decide +kernel), List.mem_of_getElem? (i := 948) (by decide +kernel), List.mem_of_getElem? (i := 949) (by decide +kernel)⟩
theorem lw_p27 : lw_okq (⟨"TypedBloodModel", "isOffered", "(III)Z"⟩, 26) := ⟨⟨by decide +kernel, by decide +kernel⟩, List.mem_of_getElem? (i := 720) (by decide +kernel), List.mem_of_getElem? (i := 968) (by decide +kernel), List.mem_of_getElem? (i := 969) (by decide +kernel)⟩
theorem lw_p28 : lw_okq (⟨"TypedBloodModel", "isBefore", "(II)Z"⟩, 26) := ⟨⟨by decide +kernel, by decide +kernel⟩, List.mem_of_getElem? (i := 720) (by decide +kernel), List.mem_of_getElem? (i := 972) (by decide +kernel), List.mem_of_getElem? (i := 973) (by decide +kernel)⟩
theorem lw_p29 : lw_okq (⟨"TypedBloodModel", "expiresIn", "(II)Z"⟩, 26) := ⟨⟨by decide +kernel, by decide +kernel⟩, List.mem_of_getElem? (i := 720) (by decide +kernel), List.mem_of_getElem? (i := 984) (by decide +kernel), List.mem_of_getElem? (i := 985) (by decide +kernel)⟩
theorem lw_p30 : lw_okq (⟨"TypedBloodModel", "firstIssue", "(II)I"⟩, 26) := ⟨⟨by decide +kernel, by decide +kernel⟩, List.mem_of_getElem? (i := 720) (by decide +kernel), List.mem_of_getElem? (i := 992) (by decide +kernel), List.mem_of_getElem? (i := 993) (by decide +kernel)⟩
def lw_privs_2 : List (MethodName × Nat) := [(⟨"TypedBloodModel", "isUnit", "(I)Z"⟩, 26), (⟨"TypedBloodModel", "stateOf", "(I)I"⟩, 26), (⟨"TypedBloodModel", "isReady", "(I)Z"⟩, 26), (⟨"TypedBloodModel", "isExpired", "(I)Z"⟩, 26), (⟨"TypedBloodModel", "isBarred", "(I)Z"⟩, 26), (⟨"TypedBloodModel", "isPatient", "(I)Z"⟩, 26), (⟨"TypedBloodModel", "reasonFor", "(II)I"⟩, 26), (⟨"TypedBloodModel", "isMatched", "(II)Z"⟩, 26), (⟨"TypedBloodModel", "mayGo", "(II)Z"⟩, 26), (⟨"TypedBloodModel", "go", "(III)I"⟩, 26), (⟨"TypedBloodModel", "field", "(II)I"⟩, 26), (⟨"TypedBloodModel", "isOffered", "(III)Z"⟩, 26), (⟨"TypedBloodModel", "isBefore", "(II)Z"⟩, 26), (⟨"TypedBloodModel", "expiresIn", "(II)Z"⟩, 26), (⟨"TypedBloodModel", "firstIssue", "(II)I"⟩, 26)]
theorem lw_r2 : ∀ q ∈ lw_privs_2, lw_okq q := List.forall_mem_cons.mpr ⟨lw_p16, List.forall_mem_cons.mpr ⟨lw_p17, List.forall_mem_cons.mpr ⟨lw_p18, List.forall_mem_cons.mpr ⟨lw_p19, List.forall_mem_cons.mpr ⟨lw_p20, List.forall_mem_cons.mpr ⟨lw_p21, List.forall_mem_cons.mpr ⟨lw_p22, List.forall_mem_cons.mpr ⟨lw_p23, List.forall_mem_cons.mpr ⟨lw_p24, List.forall_mem_cons.mpr ⟨lw_p25, List.forall_mem_cons.mpr ⟨lw_p26, List.forall_mem_cons.mpr ⟨lw_p27, List.forall_mem_cons.mpr ⟨lw_p28, List.forall_mem_cons.mpr ⟨lw_p29, List.forall_mem_cons.mpr ⟨lw_p30, fun _ h => absurd h List.not_mem_nil⟩⟩⟩⟩⟩⟩⟩⟩⟩⟩⟩⟩⟩⟩⟩
def lw_privs : List (MethodName × Nat) := lw_privs_1 ++ (lw_privs_2)
def lw_tbl : List Cond := k2_sels lw_privs ++ tables_1
theorem lw_privs_ok : ∀ q ∈ lw_privs, lw_okq q := by
  show ∀ q ∈ lw_privs_1 ++ (lw_privs_2), lw_okq q
  exact List.forall_mem_append.mpr ⟨lw_r1, lw_r2⟩
end
section
/-! A program logic over W: 'Ev E M pc ls st h P': from pc of method M, with locals ls, stack st and the run's heap h, the machine comes to the method's end, with a result and a heap of which P holds. -/
abbrev ev_V : Type := Option (Nat × Nat) ⊕ (Int32 ⊕ Int64)
abbrev vN : ev_V := Sum.inl none
abbrev vR (k i : Nat) : ev_V := Sum.inl (some (k, i))
abbrev vI (x : Int32) : ev_V := Sum.inr (Sum.inl x)
abbrev vL (x : Int64) : ev_V := Sum.inr (Sum.inr x)
/-- ints of cells, references of cells, longs of cells (by kind, number, place); counts: fixed cells, units, patients, their arrays; all cells made -/
abbrev ev_H : Type := (Nat → Nat → Nat → Int32) × (Nat → Nat → Nat → ev_V) × (Nat → Nat → Nat → Int64) × Nat × Nat × Nat × Nat × Nat
def gI (h : ev_H) (k i j : Nat) : Int32 := h.1 k i j
def gR (h : ev_H) (k i j : Nat) : ev_V := h.2.1 k i j
def gL (h : ev_H) (k i j : Nat) : Int64 := h.2.2.1 k i j
def cF (h : ev_H) : Nat := h.2.2.2.1
def cU (h : ev_H) : Nat := h.2.2.2.2.1
def cP (h : ev_H) : Nat := h.2.2.2.2.2.1
def cN (h : ev_H) : Nat := h.2.2.2.2.2.2.1
def cZ (h : ev_H) : Nat := h.2.2.2.2.2.2.2
def u3 {α : Type} (f : Nat → Nat → Nat → α) (a b c : Nat) (v : α) : Nat → Nat → Nat → α := fun x y z => if x = a ∧ y = b ∧ z = c then v else f x y z
def z2 {α : Type} (f : Nat → Nat → Nat → α) (a b : Nat) (v : α) : Nat → Nat → Nat → α := fun x y z => if x = a ∧ y = b then v else f x y z
def sI (h : ev_H) (k i j : Nat) (v : Int32) : ev_H := (u3 h.1 k i j v, h.2)
def sR (h : ev_H) (k i j : Nat) (v : ev_V) : ev_H := (h.1, u3 h.2.1 k i j v, h.2.2)
def sL (h : ev_H) (k i j : Nat) (v : Int64) : ev_H := (h.1, h.2.1, u3 h.2.2.1 k i j v, h.2.2.2)
def cnt (h : ev_H) (k : Nat) : Nat := cond (Nat.beq k 0) (cF h) (cond (Nat.beq k 1) (cU h) (cond (Nat.beq k 2) (cP h) (cN h)))
def b1 (b : Bool) : Nat := cond b 1 0
/-- a new cell of kind k -/
def nw (h : ev_H) (k : Nat) : ev_H := (z2 h.1 k (cnt h k) 0, z2 h.2.1 k (cnt h k) vN, z2 h.2.2.1 k (cnt h k) 0, cF h + b1 (Nat.beq k 0), cU h + b1 (Nat.beq k 1), cP h + b1 (Nat.beq k 2), cN h + b1 (Nat.beq k 3), cZ h + 1)
/-- a cell more that nobody names -/
def nx (h : ev_H) : ev_H := (h.1, h.2.1, h.2.2.1, cF h, cU h, cP h, cN h, cZ h + 1)
def lvs (h : ev_H) (k i : Nat) : Prop := k = 4 ∨ (k = 5 ∧ i < 3) ∨ (k < 4 ∧ i < cnt h k)
def lvV (h : ev_H) (v : ev_V) : Prop := match v with
  | .inl (some (k, i)) => lvs h k i
  | _ => True
def lvS (h : ev_H) : List ev_V → Prop
  | [] => True
  | v :: t => lvV h v ∧ lvS h t
def cv (ad : Nat → Nat → Nat) (v : ev_V) : Value := match v with
  | .inl none => .null
  | .inl (some (k, i)) => if k = 4 then .ref i else .ref (ad k i)
  | .inr (.inl x) => .int x
  | .inr (.inr x) => .long x
theorem lvS_1 {h : ev_H} {v : ev_V} {t : List ev_V} (q : lvS h (v :: t)) : lvV h v := And.left q
theorem lvS_2 {h : ev_H} {v : ev_V} {t : List ev_V} (q : lvS h (v :: t)) : lvS h t := And.right q
theorem lvS_c {h : ev_H} {v : ev_V} {t : List ev_V} (a : lvV h v) (b : lvS h t) : lvS h (v :: t) := And.intro a b
theorem lvS_i {h : ev_H} {x : Int32} {t : List ev_V} (b : lvS h t) : lvS h (vI x :: t) := And.intro trivial b
theorem lvS_l {h : ev_H} {x : Int64} {t : List ev_V} (b : lvS h t) : lvS h (vL x :: t) := And.intro trivial b
/-- what may be read of h' as it was of h: the live names, and where they lie -/
def xt (ad : Nat → Nat → Nat) (h : ev_H) (ad' : Nat → Nat → Nat) (h' : ev_H) : Prop := ∀ k i, lvs h k i → lvs h' k i ∧ (k ≠ 4 → ad' k i = ad k i)
theorem xt.rf {ad : Nat → Nat → Nat} {h : ev_H} : xt ad h ad h := fun _ _ q => ⟨q, fun _ => rfl⟩
theorem xt.tr {ad ad' ad2 : Nat → Nat → Nat} {h h' h2 : ev_H} (a : xt ad h ad' h') (b : xt ad' h' ad2 h2) : xt ad h ad2 h2 := fun k i q => ⟨(b k i (a k i q).1).1, fun n => ((b k i (a k i q).1).2 n).trans ((a k i q).2 n)⟩
theorem xt.V {ad ad' : Nat → Nat → Nat} {h h' : ev_H} (a : xt ad h ad' h') {v : ev_V} (q : lvV h v) : lvV h' v ∧ cv ad' v = cv ad v := by
  rcases v with (_ | ⟨k, i⟩) | (x | x)
  · exact ⟨trivial, rfl⟩
  · refine ⟨(a k i q).1, ?_⟩
    show (if k = 4 then Value.ref i else Value.ref (ad' k i)) = (if k = 4 then Value.ref i else Value.ref (ad k i))
    by_cases h4 : k = 4
    · rw [if_pos h4, if_pos h4]
    · rw [if_neg h4, if_neg h4, (a k i q).2 h4]
  · exact ⟨trivial, rfl⟩
  · exact ⟨trivial, rfl⟩
theorem xt.S0 {ad ad' : Nat → Nat → Nat} {h h' : ev_H} (a : xt ad h ad' h') : ∀ (st : List ev_V), lvS h st → lvS h' st ∧ st.map (cv ad') = st.map (cv ad)
  | [], _ => ⟨trivial, rfl⟩
  | v :: t, q => by
    obtain ⟨h1, h2⟩ := a.V (lvS_1 q)
    obtain ⟨h3, h4⟩ := xt.S0 a t (lvS_2 q)
    exact ⟨lvS_c h1 h3, by rw [List.map_cons, List.map_cons, h2, h4]⟩
theorem xt.S {ad ad' : Nat → Nat → Nat} {h h' : ev_H} (a : xt ad h ad' h') {st : List ev_V} (q : lvS h st) : lvS h' st ∧ st.map (cv ad') = st.map (cv ad) := xt.S0 a st q
theorem nbq {i j : Nat} (q : ¬ i = j) : Nat.beq i j = false := by
  cases hb : Nat.beq i j
  · rfl
  · exact absurd (Nat.eq_of_beq_eq_true hb) q
theorem nbq' {i j : Nat} (q : Nat.beq i j = false) : ¬ i = j := fun e => by rw [e, Nat.beq_refl] at q; cases q
def lget : List (Nat × ev_V) → Nat → Option ev_V
  | [], _ => none
  | (j, w) :: t, i => cond (Nat.beq j i) (some w) (lget t i)
def lset : List (Nat × ev_V) → Nat → ev_V → List (Nat × ev_V)
  | [], i, v => [(i, v)]
  | (j, w) :: t, i, v => cond (Nat.beq j i) ((i, v) :: t) (cond (Nat.blt i j) ((i, v) :: (j, w) :: t) ((j, w) :: lset t i v))
theorem lget_lset : ∀ (l : List (Nat × ev_V)) (i j : Nat) (v w : ev_V), lget (lset l i v) j = some w → (j = i ∧ w = v) ∨ (j ≠ i ∧ lget l j = some w)
  | [], i, j, v, w, q => by
    by_cases h : i = j
    · subst h
      have : some v = some w := by simpa [lset, lget] using q
      exact Or.inl ⟨rfl, (Option.some.inj this).symm⟩
    · have : Nat.beq i j = false := nbq h
      simp [lset, lget, this] at q
  | (a, b) :: t, i, j, v, w, q => by
    by_cases h : a = i
    · subst h
      have e1 : lset ((a, b) :: t) a v = (a, v) :: t := by simp [lset]
      rw [e1] at q
      by_cases h2 : a = j
      · subst h2
        have : some v = some w := by simpa [lget] using q
        exact Or.inl ⟨rfl, (Option.some.inj this).symm⟩
      · have e2 : Nat.beq a j = false := nbq h2
        exact Or.inr ⟨fun z => h2 z.symm, by simpa [lget, e2] using q⟩
    · have e1 : Nat.beq a i = false := nbq h
      by_cases h1 : i < a
      · have e2 : Nat.blt i a = true := by simpa [Nat.blt_eq] using h1
        have e3 : lset ((a, b) :: t) i v = (i, v) :: (a, b) :: t := by simp [lset, e1, e2]
        rw [e3] at q
        by_cases h2 : i = j
        · subst h2
          have : some v = some w := by simpa [lget] using q
          exact Or.inl ⟨rfl, (Option.some.inj this).symm⟩
        · have e4 : Nat.beq i j = false := nbq h2
          refine Or.inr ⟨fun z => h2 z.symm, ?_⟩
          have e5 : lget ((i, v) :: (a, b) :: t) j = lget ((a, b) :: t) j := by
            show cond (Nat.beq i j) _ _ = _
            rw [e4]; rfl
          rw [← e5]; exact q
      · have e2 : Nat.blt i a = false := by
          cases hb : Nat.blt i a
          · rfl
          · exact absurd (by simpa [Nat.blt_eq] using hb) h1
        have e3 : lset ((a, b) :: t) i v = (a, b) :: lset t i v := by simp [lset, e1, e2]
        rw [e3] at q
        by_cases h2 : a = j
        · subst h2
          have : some b = some w := by simpa [lget] using q
          refine Or.inr ⟨h, ?_⟩
          rw [← this]
          simp [lget]
        · have e4 : Nat.beq a j = false := nbq h2
          have q' : lget (lset t i v) j = some w := by
            have e5 : lget ((a, b) :: lset t i v) j = lget (lset t i v) j := by
              show cond (Nat.beq a j) _ _ = _
              rw [e4]; rfl
            rw [← e5]; exact q
          rcases lget_lset t i j v w q' with z | ⟨z1, z2⟩
          · exact Or.inl z
          · refine Or.inr ⟨z1, ?_⟩
            show cond (Nat.beq a j) _ _ = _
            rw [e4]; exact z2
/-- the locals -/
def ev_LR (ad : Nat → Nat → Nat) (h : ev_H) (n : Nat) (l : List (Nat × ev_V)) (A : Array Slot) : Prop :=
  ∃ lv, lv_has A n lv ∧ ∀ i v, lget l i = some v → (i, cv ad v) ∈ lv ∧ lvV h v ∧ (cv ad v).category = 1
theorem ev_LR.at {ad : Nat → Nat → Nat} {h : ev_H} {n : Nat} {l : List (Nat × ev_V)} {A : Array Slot} (q : ev_LR ad h n l A) {i : Nat} {v : ev_V} (hl : lget l i = some v) : A[i]? = some (.val (cv ad v)) ∧ lvV h v := by
  obtain ⟨lv, h1, h2⟩ := q
  exact ⟨h1.2.2 _ (h2 i v hl).1, (h2 i v hl).2.1⟩
theorem ev_LR.mv {ad ad' : Nat → Nat → Nat} {h h' : ev_H} {n : Nat} {l : List (Nat × ev_V)} {A : Array Slot} (q : ev_LR ad h n l A) (x : xt ad h ad' h') : ev_LR ad' h' n l A := by
  obtain ⟨lv, h1, h2⟩ := q
  refine ⟨lv, h1, fun i v hl => ?_⟩
  obtain ⟨a1, a2, a3⟩ := h2 i v hl
  obtain ⟨b1, b2⟩ := x.V a2
  rw [b2]
  exact ⟨a1, b1, a3⟩
theorem ev_LR.sz {ad : Nat → Nat → Nat} {h : ev_H} {n : Nat} {l : List (Nat × ev_V)} {A : Array Slot} (q : ev_LR ad h n l A) : A.size = n := by
  obtain ⟨lv, h1, -⟩ := q
  exact h1.1
/-- fewer locals -/
theorem ev_LR.sub {ad : Nat → Nat → Nat} {h : ev_H} {n : Nat} {l l' : List (Nat × ev_V)} {A : Array Slot} (q : ev_LR ad h n l A) (hs : ∀ i v, lget l' i = some v → lget l i = some v) : ev_LR ad h n l' A := by
  obtain ⟨lv, h1, h2⟩ := q
  exact ⟨lv, h1, fun i v hl => h2 i v (hs i v hl)⟩
theorem ev_LR.set {ad : Nat → Nat → Nat} {h : ev_H} {n : Nat} {l : List (Nat × ev_V)} {A : Array Slot} (q : ev_LR ad h n l A) {i : Nat} (hi : i < n) {v : ev_V} (hv : lvV h v) (hc : (cv ad v).category = 1) :
    ∃ A', storeLocals A i (cv ad v) = some A' ∧ ev_LR ad h n (lset l i v) A' := by
  obtain ⟨lv, h1, h2⟩ := q
  obtain ⟨A', e1, e2⟩ := lv_store1 h1 hi hc
  refine ⟨A', e1, _, e2, fun j w hw => ?_⟩
  rcases lget_lset l i j v w hw with ⟨rfl, rfl⟩ | ⟨z1, z2⟩
  · exact ⟨List.mem_cons_self, hv, hc⟩
  · obtain ⟨a1, a2, a3⟩ := h2 j w z2
    refine ⟨List.mem_cons_of_mem _ (List.mem_filter.mpr ⟨a1, ?_⟩), a2, a3⟩
    simp [z1, a3]
end
section
/-! laws of exceptions, out of the given text (laws/NAMES.whole: vx_); ev_thrS, ev_thrW follow vx_throwS, vx_throwSW there, with an end of their own -/
section VXA
variable {p : Program} {l : Launch} {e : Env} {R : Room} {s : State} {m : MethodId} {args : Array Value} {below : List Frame} {meth : Method} {c : Code} {H : Heap} {locs : List Loc} {cells slots : Nat} {Q : State → Prop}
variable {ls : Array Slot} {rest : List Value}
theorem vx_frame {U : State} {k n : Nat} (h : s.sameButNew ({ U with vm := s.vm } : State) locs k n) : s.heap.size ≤ U.heap.size ∧ ∀ q : Nat, q < s.heap.size → (∀ z ∈ locs, z.base ≠ q) → U.heap[q]? = s.heap[q]? := by
  obtain ⟨-, h2, -, -, -, h6⟩ := h
  refine ⟨h2, fun q hq hz => ?_⟩
  obtain ⟨c9, e1, e2, e3, e4⟩ := h6 q _ (Array.getElem?_eq_getElem hq)
  have hs : c9.slots = (s.heap[q]).slots := Array.ext_getElem? fun i => e4 i fun hm => hz _ hm rfl
  have h9 : c9 = s.heap[q] := by
    rw [hs] at e2
    exact e2
  have e5 : U.heap[q]? = some c9 := e1
  rw [e5, h9, Array.getElem?_eq_getElem hq]
def vx_no (w : Cond) : Bool := decide (w ≠ .isRef (.static Bundle.tN "UNASSIGNED_STACK" Bundle.steD)) && decide (w ≠ .isRef (.static Bundle.tN "SUPPRESSED_SENTINEL" Bundle.listD)) && decide (w ≠ .laysStatic Bundle.tN "UNASSIGNED_STACK" Bundle.steD) && decide (w ≠ .laysStatic Bundle.tN "SUPPRESSED_SENTINEL" Bundle.listD)
def vx_atS (own : String) (ic : Nat) (X : String) (names : List String) : List Cond := (Bundle.ownAtoms own ic X names).filter vx_no
def vx_ot (w : Cond) : Bool := w.onTables || goodWord w
theorem vx_ot_at {args a' : Array Value} {s U : State} {w : Cond} (hW : s.WarmedH U.vm) (hvm : s.vm = U.vm) (hg : vx_ot w = true) (h : w.before args s = true) : w.before a' U = true := by
  simp only [vx_ot, Bool.or_eq_true] at hg
  rcases hg with hg | hg
  · exact va_tabs hg hvm h
  · exact word_at hW (good_of_word hg) h
theorem vx_own {args : Array Value} {s : State} {L : List Cond} (h1 : ∀ w ∈ L.filter vx_no, w.before args s = true)
    (hU : (Cond.isRef (.static Bundle.tN "UNASSIGNED_STACK" Bundle.steD)).before args s = true) (hN : (Cond.isRef (.static Bundle.tN "SUPPRESSED_SENTINEL" Bundle.listD)).before args s = true)
    (lU : (Cond.laysStatic Bundle.tN "UNASSIGNED_STACK" Bundle.steD).before args s = true) (lN : (Cond.laysStatic Bundle.tN "SUPPRESSED_SENTINEL" Bundle.listD).before args s = true) : ∀ w ∈ L, w.before args s = true := by
  intro w hw
  by_cases e1 : w = .isRef (.static Bundle.tN "UNASSIGNED_STACK" Bundle.steD)
  · rw [e1]; exact hU
  · by_cases e2 : w = .isRef (.static Bundle.tN "SUPPRESSED_SENTINEL" Bundle.listD)
    · rw [e2]; exact hN
    · by_cases e3 : w = .laysStatic Bundle.tN "UNASSIGNED_STACK" Bundle.steD
      · rw [e3]; exact lU
      · by_cases e4 : w = .laysStatic Bundle.tN "SUPPRESSED_SENTINEL" Bundle.listD
        · rw [e4]; exact lN
        · exact h1 w (List.mem_filter.mpr ⟨hw, by unfold vx_no; rw [decide_eq_true e1, decide_eq_true e2, decide_eq_true e3, decide_eq_true e4]; rfl⟩)
def vx_L (C n d : String) (A : Nat → Prop) (U : State) (H : Heap) : Prop := ∃ (c : ClassId) (k : Class) (i : Nat) (f : Field) (a : Nat) (cell : Cell), U.vm.findClass C = some c ∧ U.fieldFound? C n d = some (c, k, i, f) ∧ f.isStatic = true ∧ k.statics = some a ∧ H[a]? = some cell ∧ cell.vm.isStatics = true ∧ cell.cls = c ∧ f.slot < cell.slots.size ∧ k.staticTypes[f.slot]? = some f.type ∧ ¬ A a
theorem vx_L.moved {C n d : String} {A : Nat → Prop} {u U : State} {H : Heap} (hvm : u.vm.Alike U.vm) (h : vx_L C n d A u H) : vx_L C n d A U H := by
  obtain ⟨c, k, i, f, a, cell, h1, h2, h3, h4, h5, h6, h7, h8, h9, h10⟩ := h
  obtain ⟨k', hi', he⟩ := State.fieldFound?_setVm hvm h2
  exact ⟨c, k', i, f, a, cell, by rw [hvm.findClass]; exact h1, hi', h3, by rw [he]; exact h4, h5, h6, h7, h8, by rw [he]; exact h9, h10⟩
theorem vx_L.kept {C n d : String} {A : Nat → Prop} {U : State} {H H1 : Heap} (h : vx_L C n d A U H) (hq : ∀ a : Nat, a < H.size → ¬ A a → H1[a]? = H[a]?) : vx_L C n d A U H1 := by
  obtain ⟨c, k, i, f, a, cell, h1, h2, h3, h4, h5, h6, h7, h8, h9, h10⟩ := h
  exact ⟨c, k, i, f, a, cell, h1, h2, h3, h4, by rw [hq a (Array.getElem?_eq_some_iff.mp h5).1 h10]; exact h5, h6, h7, h8, h9, h10⟩
theorem vx_L.narrow {C n d : String} {A B : Nat → Prop} {U : State} {H : Heap} (h : vx_L C n d A U H) (hAB : ∀ q, B q → A q) : vx_L C n d B U H := by
  obtain ⟨c, k, i, f, a, cell, h1, h2, h3, h4, h5, h6, h7, h8, h9, h10⟩ := h
  exact ⟨c, k, i, f, a, cell, h1, h2, h3, h4, h5, h6, h7, h8, h9, fun z => h10 (hAB _ z)⟩
theorem vx_L.word {C n d : String} {A : Nat → Prop} {s : State} {args : Array Value} (h : vx_L C n d A s s.heap) : (Cond.laysStatic C n d).before args s = true := by
  obtain ⟨c, k, i, f, a, cell, h1, h2, h3, h4, h5, h6, h7, h8, h9, -⟩ := h
  show (Cond.laysStatic C n d).holds args s none s [] = true
  exact Cond.laysStatic_of h1 h2 h3 h4 h5 h6 h7 h8 h9
def vx_Zq (C n d : String) (A : Nat → Prop) (U : State) (H : Heap) : Prop := va_Zq C n d A U H ∧ vx_L C n d A U H
theorem vx_Zq.moved {C n d : String} {A : Nat → Prop} {u U : State} {H : Heap} (hvm : u.vm.Alike U.vm) (h : vx_Zq C n d A u H) : vx_Zq C n d A U H := ⟨va_Zq.moved hvm h.1, vx_L.moved hvm h.2⟩
theorem vx_Zq.kept {C n d : String} {A : Nat → Prop} {U : State} {H H1 : Heap} (h : vx_Zq C n d A U H) (hq : ∀ a : Nat, a < H.size → ¬ A a → H1[a]? = H[a]?) : vx_Zq C n d A U H1 := ⟨va_Zq.kept h.1 hq, vx_L.kept h.2 hq⟩
theorem vx_Zq.narrow {C n d : String} {A B : Nat → Prop} {U : State} {H : Heap} (h : vx_Zq C n d A U H) (hAB : ∀ q, B q → A q) : vx_Zq C n d B U H := ⟨va_Zq.narrow h.1 hAB, vx_L.narrow h.2 hAB⟩
theorem vx_Zqof {args : Array Value} {s : State} {C n d : String} {A : Nat → Prop} (hl : (Cond.laysStatic C n d).before args s = true) (hini : (Cond.initialized C).before args s = true) (h : (Cond.isRef (.static C n d)).before args s = true) (hA : ∀ a : Nat, a < s.heap.size → ¬ A a) : vx_Zq C n d A s s.heap := by
  refine ⟨va_Zqof hl hini h hA, ?_⟩
  obtain ⟨c, k, i, f, a, cell, h1, h2, h3, h4, h5, h6, h7, h8, h9⟩ := Cond.laysStatic_spec hl
  exact ⟨c, k, i, f, a, cell, h1, h2, h3, h4, h5, h6, h7, h8, h9, hA a (Array.getElem?_eq_some_iff.mp h5).1⟩
theorem vx_isRef {C n d : String} {v : Value} {A : Nat → Prop} {s : State} {args : Array Value} (h : va_Z C n d v A s s.heap) (hv : v.isRef = true) : (Cond.isRef (.static C n d)).before args s = true := by
  obtain ⟨cf, kf, fi, f, a, cell, h1, h2, h3, h4, h5, h6, h7, -⟩ := h
  have he : (Term.static C n d).eval args s none [] s = some v := by
    simp [Term.eval, State.fieldNamed?, h1, h2, h4, h5, h6, h7]
  simp only [Cond.before, Cond.holds, Cond.value, he]
  cases v <;> simp_all [Value.isRef]
theorem vx_isRefq {C n d : String} {A : Nat → Prop} {s : State} {args : Array Value} (h : va_Zq C n d A s s.heap) : (Cond.isRef (.static C n d)).before args s = true := by
  rcases h with h | ⟨t, h⟩
  · exact vx_isRef h rfl
  · exact vx_isRef h rfl
theorem vx_rebase {T : State} (X : Stand p l e R s m args below meth c T locs cells slots) {R' : Room} (hf : R'.frames ≤ R.frames) (hl : R'.locals ≤ R.locals) (hc : cells + R'.cells ≤ R.cells) (hs : slots + R'.slots ≤ R.slots) :
    Stand p l e R' ((T.setVm s.vm).setFrames (.invoking m args :: below)) m args below meth c T [] 0 0 := by
  have htop : (T.setVm s.vm).topJava?.isSome := X.here.top
  have hF : ((T.setVm s.vm).setFrames (.invoking m args :: below)).frames = .invoking m args :: below := State.frames_setFrames _ (State.cur_lt_of_top htop)
  obtain ⟨g₀, hg0⟩ := Option.isSome_iff_exists.mp htop
  obtain ⟨r, hr⟩ := State.topJava?_eq_some.mp hg0
  have hl9 : e.platform.stackLimits (T.setVm s.vm).me = e.platform.stackLimits s.me := X.limits
  have hb9 : (T.setVm s.vm).me.stackBytes = s.me.stackBytes := X.bytes
  refine ⟨X.admits, X.cas, X.clock, hF, ?_, X.hears, X.method, X.code, X.here, X.tail, X.warmed, ?_, ?_, ?_⟩
  · have h := X.room
    have hU : ((T.setVm s.vm).setFrames (.invoking m args :: below)).localsInUse = s.localsInUse := by
      rw [State.localsInUse_invoking hF (meth := meth) (c := c) X.method X.code, State.localsInUse_invoking X.frames X.method X.code]
    simp only [State.hasRoom, Bool.and_eq_true, decide_eq_true_eq] at h ⊢
    obtain ⟨⟨⟨⟨h1, h2, h3, h4, h5, h6⟩, h7⟩, h8⟩, h9⟩ := h
    rw [X.frames, List.length_cons] at h2 h3
    have q1 := X.heapSize
    have q2 := X.used
    simp only [hF, hU, List.length_cons, State.stackLimits_setFrames, State.stackBytes_setFrames, hl9, hb9]
    refine ⟨⟨⟨⟨by omega, by omega, by omega, by omega, by omega, h6⟩, ?_⟩, ?_⟩, X.book⟩
    · show T.heap.size + R'.cells ≤ e.platform.maxCells
      omega
    · show T.slotsUsed + R'.slots ≤ e.platform.maxSlots
      omega
  · rw [State.stackLimits_setFrames]; rfl
  · rw [State.stackBytes_setFrames]; rfl
  · refine ⟨?_, Nat.le_refl _, Nat.le_refl _, ?_, ?_, fun a c9 h9 => ⟨c9, h9, rfl, rfl, fun _ _ => rfl⟩⟩
    · obtain ⟨t, ht, -⟩ := State.frames_cons hr
      show T.setVm s.vm = { ((T.setVm s.vm).setFrames (.invoking m args :: below)).setFrames (T.setVm s.vm).frames with heap := T.heap, slotsUsed := T.slotsUsed }
      rw [State.setFrames_setFrames, State.setFrames_self ht]
      rfl
    · show T.slotsUsed = T.slotsUsed + ((T.heap.toList.drop T.heap.size).map (·.slots.size)).sum
      rw [List.drop_eq_nil_of_le (Nat.le_of_eq Array.length_toList)]
      rfl
    · show ((T.heap.toList.drop T.heap.size).map (·.slots.size)).sum ≤ 0
      rw [List.drop_eq_nil_of_le (Nat.le_of_eq Array.length_toList)]
      exact Nat.le_refl _
theorem ev_thrS {cc : ByteArray} {pc : Nat} (hexec : p.tables.exec = Jvm.exec) (hb : c.code = cc) (hl : l.stackTraces = false) {own cls text : String} {names : List String} {ik is ic sa : Nat} {A : Nat → Prop}
    (hown : s.vm.findClass own = some m.cls) (hcls : Bundle.fit cls = true) (hnames : ∀ n ∈ names, Bundle.fit n = true)
    (hk : (Cond.classLink own ik cls).before args s = true) (hini : (Cond.initialized cls).before args s = true) (hstr : vk_R own is text sa s) (hat : ∀ w ∈ vx_atS own ic cls names, w.before args s = true)
    (hgood : ∀ w ∈ Cond.classLink own ik cls :: Cond.initialized cls :: vx_atS own ic cls names, vx_ot w = true)
    (hU : vx_Zq Bundle.tN "UNASSIGNED_STACK" Bundle.steD A s s.heap) (hN : vx_Zq Bundle.tN "SUPPRESSED_SENTINEL" Bundle.listD A s s.heap) (hS : va_S A s.heap H locs) (hsize : ls.size = c.maxLocals)
    (d0 : decode cc pc = .ok (.new ik, 3)) (d3 : decode cc (pc + 3) = .ok (.dup, 1)) (d4 : decode cc (pc + 4) = .ok (.ldc is, 2)) (d6 : decode cc (pc + 6) = .ok (.invokespecial ic, 3)) (d9 : decode cc (pc + 9) = .ok (.athrow, 1))
    (hout : ∀ x ∈ c.exceptionTable.toList, covers x (pc + 9) = false)
    (hRframes : names.length + 3 < R.frames) (hRlocals : (rest.map fun v => v.category).sum + (13 * (names.length + 1) + 43) ≤ R.locals) (hRcells : cells + 1 ≤ R.cells) (hRslots : slots + 6 ≤ R.slots) (hlocks : meth.locks = false)
    (kk : ∀ (U : State) (ce : Cell), U.status = .running → Ended U below (.threw H.size) → s.WarmedH U.vm → s.sameButNew ({ U with vm := s.vm } : State) locs (cells + 1) (slots + 6) → U.heap.size = H.size + 1 → (∀ q : Nat, q < H.size → U.heap[q]? = H[q]?) → U.heap[H.size]? = some ce → ce.vm = .none → s.vm.findClass cls = some ce.cls → Q U) :
    W p l e R s m args below meth c H locs cells slots Q (F0 m pc ls rest) := by
  intro T hT X
  have htr : e.platform.stackTraces = false := (show e.platform.stackTraces = l.stackTraces by rw [X.admits.platform]).trans hl
  have Y := vx_rebase X (R' := { frames := R.frames, locals := R.locals, cells := 1, slots := 6 }) (Nat.le_refl _) (Nat.le_refl _) hRcells hRslots
  obtain ⟨s', hA⟩ : ∃ z, z = (T.setVm s.vm).setFrames (.invoking m args :: below) := ⟨_, rfl⟩
  rw [← hA] at Y
  have hvm : s'.vm = s.vm := by rw [hA]; rfl
  have hhp : s'.heap = H := by rw [hA]; exact hT
  have hW0 : s.WarmedH s'.vm := by rw [hvm]; exact State.WarmedH.refl s
  have hat' : ∀ w ∈ vx_atS own ic cls names, w.before args s' = true := fun w hw => vx_ot_at hW0 hvm.symm (hgood w (List.mem_cons_of_mem _ (List.mem_cons_of_mem _ hw))) (hat w hw)
  have hk' : (Cond.classLink own ik cls).before args s' = true := vx_ot_at hW0 hvm.symm (hgood _ List.mem_cons_self) hk
  have hini' : (Cond.initialized cls).before args s' = true := vx_ot_at hW0 hvm.symm (hgood _ (List.mem_cons_of_mem _ List.mem_cons_self)) hini
  have hU' : vx_Zq Bundle.tN "UNASSIGNED_STACK" Bundle.steD A s' s'.heap := by rw [hhp]; exact vx_Zq.moved hW0.alike (hU.kept hS.2.1)
  have hN' : vx_Zq Bundle.tN "SUPPRESSED_SENTINEL" Bundle.listD A s' s'.heap := by rw [hhp]; exact vx_Zq.moved hW0.alike (hN.kept hS.2.1)
  have h : ∀ w ∈ Bundle.ownAtoms own ic cls names, w.before args s' = true := vx_own hat' (vx_isRefq hU'.1) (vx_isRefq hN'.1) hU'.2.word hN'.2.word
  have hown' : s'.vm.findClass own = some m.cls := by rw [hvm]; exact hown
  have hins : (Cond.instantiable cls 6).before args s' = true := h _ (by simp [Bundle.ownAtoms])
  obtain ⟨vm₁, cX, kX, hfX, hkX, -, -, X₁, st1⟩ := Y.newCold hexec (own := own) (C := cls) (index := ik) (n := 6) hown' hk' hins hini'
    (g := F0 m pc ls rest) rfl (by rw [hb]; exact d0) (Nat.le_refl _) (Nat.le_refl _)
  generalize hT1 : (T.setVm vm₁).pushCell { cls := cX, slots := kX.instanceTypes.map defaultValue, vm := .none } = T1 at X₁ st1
  have hcat : (Value.ref T.heap.size).category = 1 := rfl
  have hcellA : T1.heap[T.heap.size]? = some (freshCell cX kX) := by rw [← hT1]; exact State.heap_pushCell_size _ _
  have d3' : decode c.code (pc + 3) = .ok (.dup, 1) := by rw [hb]; exact d3
  have d4' : decode c.code (pc + 4) = .ok (.ldc is, 2) := by rw [hb]; exact d4
  have hstr' : vk_R own is text sa s' := vk_R.warm hW0 hstr
  obtain ⟨U, hsteps, hrun, hend, hW, hsame, ce, hce, hO⟩ := X₁.ctorThrowS hexec htr (own := own) (cls := cls) (names := names) (ic := ic) hown' hcls hnames h (fun x hx => nomatch hx) hfX hkX hcellA (by rw [hhp, hT]; exact Nat.le_refl _) (msg := .ref sa) rfl
    (g := { method := m, pc := pc + 6, locals := ls, stack := .ref sa :: .ref T.heap.size :: .ref T.heap.size :: rest, locked := none }) rfl hsize rfl rfl (rest := rest) rfl
    (by rw [hb]; exact d6) (by rw [hb]; exact d9) hout hRframes (by simp only [List.map_cons, List.sum_cons, hcat]; omega) hlocks
  obtain ⟨f1, f2⟩ := vx_frame hsame
  rw [hhp] at f1 f2
  have hWs : s.WarmedH U.vm := State.WarmedH.trans hW0 hW
  have hcl : s.vm.findClass cls = some ce.cls := by
    have h9 := hO.cls
    rw [hvm] at h9
    exact h9
  have hall : s.sameButNew ({ U with vm := s.vm } : State) locs (cells + 1) (slots + 6) := by
    subst hA
    obtain ⟨e1, e2⟩ := hsame
    rw [State.setFrames_setFrames] at e1
    have h2 : (T.setVm s.vm).sameButNew ({ U with vm := s.vm } : State) [] (0 + 1) (0 + 6) := ⟨e1, e2⟩
    have h3 := X.same.trans h2
    rw [List.append_nil] at h3
    exact h3
  have hsz : U.heap.size = H.size + 1 := by
    have h9 := (Array.getElem?_eq_some_iff.mp hce).1
    have h8 := hsame.2.2.1
    have h7 : U.heap.size ≤ s'.heap.size + (0 + 1) := h8
    rw [hhp] at h7
    rw [hT] at h9
    omega
  have hce' : U.heap[H.size]? = some ce := by rw [← hT]; exact hce
  have hend' : Ended U below (.threw H.size) := by rw [← hT]; exact hend
  refine ⟨U, ?_, kk U ce hrun hend' hWs hall hsz (fun q hq => f2 q hq (fun z hz => nomatch hz)) hce' hO.vm hcl⟩
  refine st1 _ ?_
  show Steps p.tables e below (T1.setTop { method := m, pc := pc + 3, locals := ls, stack := .ref T.heap.size :: rest, locked := none }) _
  jvm_step X₁.here [X₁.here.top, hexec, d3', Value.category]
  exact X₁.ldcString hexec (own := own) (text := text) (index := is) (a := sa) hown' hstr'.1 hstr'.2
    (g := { method := m, pc := pc + 4, locals := ls, stack := .ref T.heap.size :: .ref T.heap.size :: rest, locked := none }) rfl d4' _ hsteps
theorem ev_thrW {cc : ByteArray} {pc : Nat} (hexec : p.tables.exec = Jvm.exec) (hb : c.code = cc) (hl : l.stackTraces = false) {own cls text : String} {names : List String} {ik is ic sa : Nat} {A : Nat → Prop}
    (hown : s.vm.findClass own = some m.cls) (hcls : Bundle.fit cls = true) (hnames : ∀ n ∈ names, Bundle.fit n = true)
    (hk : (Cond.classLink own ik cls).before args s = true) (hini : (Cond.initialized cls).before args s = true) (hstr : vk_R own is text sa s) (hat : ∀ w ∈ vx_atS own ic cls names, w.before args s = true)
    (hgood : ∀ w ∈ Cond.classLink own ik cls :: Cond.initialized cls :: vx_atS own ic cls names, vx_ot w = true)
    (hU : vx_Zq Bundle.tN "UNASSIGNED_STACK" Bundle.steD A s s.heap) (hN : vx_Zq Bundle.tN "SUPPRESSED_SENTINEL" Bundle.listD A s s.heap) (hS : va_S A s.heap H locs) (hsize : ls.size = c.maxLocals)
    (d0 : decode cc pc = .ok (.new ik, 3)) (d3 : decode cc (pc + 3) = .ok (.dup, 1)) (d4 : decode cc (pc + 4) = .ok (.ldc_w is, 3)) (d7 : decode cc (pc + 7) = .ok (.invokespecial ic, 3)) (d10 : decode cc (pc + 10) = .ok (.athrow, 1))
    (hout : ∀ x ∈ c.exceptionTable.toList, covers x (pc + 10) = false)
    (hRframes : names.length + 3 < R.frames) (hRlocals : (rest.map fun v => v.category).sum + (13 * (names.length + 1) + 43) ≤ R.locals) (hRcells : cells + 1 ≤ R.cells) (hRslots : slots + 6 ≤ R.slots) (hlocks : meth.locks = false)
    (kk : ∀ (U : State) (ce : Cell), U.status = .running → Ended U below (.threw H.size) → s.WarmedH U.vm → s.sameButNew ({ U with vm := s.vm } : State) locs (cells + 1) (slots + 6) → U.heap.size = H.size + 1 → (∀ q : Nat, q < H.size → U.heap[q]? = H[q]?) → U.heap[H.size]? = some ce → ce.vm = .none → s.vm.findClass cls = some ce.cls → Q U) :
    W p l e R s m args below meth c H locs cells slots Q (F0 m pc ls rest) := by
  intro T hT X
  have htr : e.platform.stackTraces = false := (show e.platform.stackTraces = l.stackTraces by rw [X.admits.platform]).trans hl
  have Y := vx_rebase X (R' := { frames := R.frames, locals := R.locals, cells := 1, slots := 6 }) (Nat.le_refl _) (Nat.le_refl _) hRcells hRslots
  obtain ⟨s', hA⟩ : ∃ z, z = (T.setVm s.vm).setFrames (.invoking m args :: below) := ⟨_, rfl⟩
  rw [← hA] at Y
  have hvm : s'.vm = s.vm := by rw [hA]; rfl
  have hhp : s'.heap = H := by rw [hA]; exact hT
  have hW0 : s.WarmedH s'.vm := by rw [hvm]; exact State.WarmedH.refl s
  have hat' : ∀ w ∈ vx_atS own ic cls names, w.before args s' = true := fun w hw => vx_ot_at hW0 hvm.symm (hgood w (List.mem_cons_of_mem _ (List.mem_cons_of_mem _ hw))) (hat w hw)
  have hk' : (Cond.classLink own ik cls).before args s' = true := vx_ot_at hW0 hvm.symm (hgood _ List.mem_cons_self) hk
  have hini' : (Cond.initialized cls).before args s' = true := vx_ot_at hW0 hvm.symm (hgood _ (List.mem_cons_of_mem _ List.mem_cons_self)) hini
  have hU' : vx_Zq Bundle.tN "UNASSIGNED_STACK" Bundle.steD A s' s'.heap := by rw [hhp]; exact vx_Zq.moved hW0.alike (hU.kept hS.2.1)
  have hN' : vx_Zq Bundle.tN "SUPPRESSED_SENTINEL" Bundle.listD A s' s'.heap := by rw [hhp]; exact vx_Zq.moved hW0.alike (hN.kept hS.2.1)
  have h : ∀ w ∈ Bundle.ownAtoms own ic cls names, w.before args s' = true := vx_own hat' (vx_isRefq hU'.1) (vx_isRefq hN'.1) hU'.2.word hN'.2.word
  have hown' : s'.vm.findClass own = some m.cls := by rw [hvm]; exact hown
  have hins : (Cond.instantiable cls 6).before args s' = true := h _ (by simp [Bundle.ownAtoms])
  obtain ⟨vm₁, cX, kX, hfX, hkX, -, -, X₁, st1⟩ := Y.newCold hexec (own := own) (C := cls) (index := ik) (n := 6) hown' hk' hins hini'
    (g := F0 m pc ls rest) rfl (by rw [hb]; exact d0) (Nat.le_refl _) (Nat.le_refl _)
  generalize hT1 : (T.setVm vm₁).pushCell { cls := cX, slots := kX.instanceTypes.map defaultValue, vm := .none } = T1 at X₁ st1
  have hcat : (Value.ref T.heap.size).category = 1 := rfl
  have hcellA : T1.heap[T.heap.size]? = some (freshCell cX kX) := by rw [← hT1]; exact State.heap_pushCell_size _ _
  have d3' : decode c.code (pc + 3) = .ok (.dup, 1) := by rw [hb]; exact d3
  have d4' : decode c.code (pc + 4) = .ok (.ldc_w is, 3) := by rw [hb]; exact d4
  have hstr' : vk_R own is text sa s' := vk_R.warm hW0 hstr
  obtain ⟨U, hsteps, hrun, hend, hW, hsame, ce, hce, hO⟩ := X₁.ctorThrowS hexec htr (own := own) (cls := cls) (names := names) (ic := ic) hown' hcls hnames h (fun x hx => nomatch hx) hfX hkX hcellA (by rw [hhp, hT]; exact Nat.le_refl _) (msg := .ref sa) rfl
    (g := { method := m, pc := pc + 7, locals := ls, stack := .ref sa :: .ref T.heap.size :: .ref T.heap.size :: rest, locked := none }) rfl hsize rfl rfl (rest := rest) rfl
    (by rw [hb]; exact d7) (by rw [hb]; exact d10) hout hRframes (by simp only [List.map_cons, List.sum_cons, hcat]; omega) hlocks
  obtain ⟨f1, f2⟩ := vx_frame hsame
  rw [hhp] at f1 f2
  have hWs : s.WarmedH U.vm := State.WarmedH.trans hW0 hW
  have hcl : s.vm.findClass cls = some ce.cls := by
    have h9 := hO.cls
    rw [hvm] at h9
    exact h9
  have hall : s.sameButNew ({ U with vm := s.vm } : State) locs (cells + 1) (slots + 6) := by
    subst hA
    obtain ⟨e1, e2⟩ := hsame
    rw [State.setFrames_setFrames] at e1
    have h2 : (T.setVm s.vm).sameButNew ({ U with vm := s.vm } : State) [] (0 + 1) (0 + 6) := ⟨e1, e2⟩
    have h3 := X.same.trans h2
    rw [List.append_nil] at h3
    exact h3
  have hsz : U.heap.size = H.size + 1 := by
    have h9 := (Array.getElem?_eq_some_iff.mp hce).1
    have h8 := hsame.2.2.1
    have h7 : U.heap.size ≤ s'.heap.size + (0 + 1) := h8
    rw [hhp] at h7
    rw [hT] at h9
    omega
  have hce' : U.heap[H.size]? = some ce := by rw [← hT]; exact hce
  have hend' : Ended U below (.threw H.size) := by rw [← hT]; exact hend
  refine ⟨U, ?_, kk U ce hrun hend' hWs hall hsz (fun q hq => f2 q hq (fun z hz => nomatch hz)) hce' hO.vm hcl⟩
  refine st1 _ ?_
  show Steps p.tables e below (T1.setTop { method := m, pc := pc + 3, locals := ls, stack := .ref T.heap.size :: rest, locked := none }) _
  jvm_step X₁.here [X₁.here.top, hexec, d3', Value.category]
  exact X₁.ldcStringW hexec (own := own) (text := text) (index := is) (a := sa) hown' hstr'.1 hstr'.2
    (g := { method := m, pc := pc + 4, locals := ls, stack := .ref T.heap.size :: .ref T.heap.size :: rest, locked := none }) rfl d4' _ hsteps
end VXA
theorem vx_table {l : Launch} {p : Program} {x y : MethodName} {S : Spec} {cc bytes : ByteArray} {maxL maxL' : Nat} {ret ret' : Option FieldType} {e : Env} {s s₁ : State} {m : MethodId} {args : Array Value} {below : List Frame} {meth : Method} {c : Code} {hh : List (Nat × Nat × Nat × Nat)}
    (B : BodyLoose p l y S cc maxL ret e s m args below meth c s₁) (h : (Cond.codeWith y bytes maxL' ret' hh).before args s = true) : c.exceptionTable.toList = tableOf hh := by
  obtain ⟨m9, meth9, c9, hn9, h1, h2, -, -, h6, -⟩ := Cond.codeWith_spec h
  cases Option.some.inj (hn9.symm.trans B.named)
  cases Option.some.inj (h1.symm.trans B.method)
  cases Option.some.inj (h2.symm.trans (Stand.of_body B).code)
  rw [← h6, table_eq]
end
section
/-! the classes, their fields; the shapes of cells (by program) -/
def T0 : u_T := fun k => ([("TypedBlood", "units", "[LTypedBlood$Unit;", true), ("TypedBlood", "patients", "[LTypedBlood$Patient;", true), ("TypedBlood", "ranking", "LTypedBlood$Ranking;", true), ("TypedBlood", "unitCount", "I", false), ("TypedBlood", "patientCount", "I", false), ("TypedBlood", "now", "I", false), ("TypedBlood", "quarantined", "I", false), ("TypedBlood", "issuesSoFar", "I", false)] : List (String × String × String × Bool)).getD k ("", "", "", false)
def T1 : u_T := fun k => ([("TypedBlood$Unit", "kind", "I", true), ("TypedBlood$Unit", "group", "I", true), ("TypedBlood$Unit", "rhesus", "I", true), ("TypedBlood$Unit", "donors", "I", true), ("TypedBlood$Unit", "expiry", "I", true), ("TypedBlood$Unit", "present", "I", false), ("TypedBlood$Unit", "absent", "I", false), ("TypedBlood$Unit", "marks", "I", false), ("TypedBlood$Unit", "state", "I", false), ("TypedBlood$Unit", "holder", "I", false), ("TypedBlood$Unit", "reservedUntil", "I", false), ("TypedBlood$Unit", "issuedAt", "I", false), ("TypedBlood$Unit", "issueOrder", "I", false), ("TypedBlood$Unit", "doctor", "I", false), ("TypedBlood$Unit", "discardReason", "I", false)] : List (String × String × String × Bool)).getD k ("", "", "", false)
def T2 : u_T := fun k => ([("TypedBlood$Patient", "status", "I", false), ("TypedBlood$Patient", "group", "I", false), ("TypedBlood$Patient", "rhesus", "I", false), ("TypedBlood$Patient", "sampledAt", "I", false), ("TypedBlood$Patient", "antibodies", "I", false), ("TypedBlood$Patient", "needs", "I", false), ("TypedBlood$Patient", "negativeAt", "[I", true)] : List (String × String × String × Bool)).getD k ("", "", "", false)
def T3 : u_T := fun k => ([("TypedBlood$Ranking", "numbers", "[I", true), ("TypedBlood$Ranking", "keys", "[I", true), ("TypedBlood$Ranking", "size", "I", false)] : List (String × String × String × Bool)).getD k ("", "", "", false)
def T4 : u_T := fun k => ([("TypedBloodModel", "thrown", "I", false), ("TypedBloodModel", "now", "I", false), ("TypedBloodModel", "units", "I", false), ("TypedBloodModel", "kinds", "[I", true), ("TypedBloodModel", "groups", "[I", true), ("TypedBloodModel", "rhesus", "[I", true), ("TypedBloodModel", "present", "[I", true), ("TypedBloodModel", "absent", "[I", true), ("TypedBloodModel", "marks", "[I", true), ("TypedBloodModel", "expiries", "[I", true), ("TypedBloodModel", "donors", "[I", true), ("TypedBloodModel", "states", "[I", true), ("TypedBloodModel", "whose", "[I", true), ("TypedBloodModel", "since", "[I", true), ("TypedBloodModel", "issues", "[I", true), ("TypedBloodModel", "doctors", "[I", true), ("TypedBloodModel", "reasons", "[I", true), ("TypedBloodModel", "latestIssue", "I", false), ("TypedBloodModel", "quarantined", "I", false), ("TypedBloodModel", "patients", "I", false), ("TypedBloodModel", "told", "[I", true), ("TypedBloodModel", "toldAt", "[I", true), ("TypedBloodModel", "status", "[I", true), ("TypedBloodModel", "antibodies", "[I", true), ("TypedBloodModel", "wants", "[I", true), ("TypedBloodModel", "matched", "[I", true)] : List (String × String × String × Bool)).getD k ("", "", "", false)
def vC : List vw_C := [("TypedBlood", T0, 8), ("TypedBlood$Unit", T1, 15), ("TypedBlood$Patient", T2, 7), ("TypedBlood$Ranking", T3, 3), ("TypedBloodModel", T4, 26)]
def nfl (ci : Nat) : Nat := cond (Nat.beq ci 0) 8 ( cond (Nat.beq ci 1) 15 ( cond (Nat.beq ci 2) 7 ( cond (Nat.beq ci 3) 3 (26))))
def isI (ci f : Nat) : Bool := cond (Nat.beq ci 0) (Nat.ble 3 f) (cond (Nat.beq ci 1) true (cond (Nat.beq ci 2) (Nat.blt f 6) (cond (Nat.beq ci 3) (Nat.beq f 2) (Nat.ble f 2 || (Nat.ble 17 f && Nat.ble f 19)))))
def fty (ci f : Nat) : FieldType := cond (isI ci f) .int (cond (Nat.beq ci 0) (cond (Nat.beq f 0) (.array (.object "TypedBlood$Unit")) (cond (Nat.beq f 1) (.array (.object "TypedBlood$Patient")) (.object "TypedBlood$Ranking"))) (.array .int))
/-- what a cell is: (0, number of its class), (1, length) ints, (2, length) longs, (3, length) Units, (4, length) Patients -/
def shp0 (i : Nat) : Nat × Nat := cond (Nat.beq i 0) (0, 0) (cond (Nat.beq i 1) (3, 48) (cond (Nat.beq i 2) (4, 10) (cond (Nat.beq i 3) (0, 3) (cond (Nat.blt i 6) (1, 48) (cond (Nat.beq i 6) (0, 4) (cond (Nat.blt i 21) (1, 48) (cond (Nat.blt i 26) (1, 10) (cond (Nat.beq i 26) (1, 480) (2, 1)))))))))
def shp (k i : Nat) : Nat × Nat := cond (Nat.beq k 0) (shp0 i) (cond (Nat.beq k 1) (0, 1) (cond (Nat.beq k 2) (0, 2) (1, 48)))
theorem T0_ty : ∀ f, f < 8 → parseFieldDescriptor (T0 f).2.2.1 = some (fty 0 f) := by decide +kernel
theorem T0_nm : ∀ a, a < 8 → ∀ b, b < 8 → a ≠ b → (T0 a).2.1 ≠ (T0 b).2.1 := by decide +kernel
theorem T0_dc : ∀ f, f < 8 → (T0 f).1 = "TypedBlood" := by decide +kernel
theorem T1_ty : ∀ f, f < 15 → parseFieldDescriptor (T1 f).2.2.1 = some (fty 1 f) := by decide +kernel
theorem T1_nm : ∀ a, a < 15 → ∀ b, b < 15 → a ≠ b → (T1 a).2.1 ≠ (T1 b).2.1 := by decide +kernel
theorem T1_dc : ∀ f, f < 15 → (T1 f).1 = "TypedBlood$Unit" := by decide +kernel
theorem T2_ty : ∀ f, f < 7 → parseFieldDescriptor (T2 f).2.2.1 = some (fty 2 f) := by decide +kernel
theorem T2_nm : ∀ a, a < 7 → ∀ b, b < 7 → a ≠ b → (T2 a).2.1 ≠ (T2 b).2.1 := by decide +kernel
theorem T2_dc : ∀ f, f < 7 → (T2 f).1 = "TypedBlood$Patient" := by decide +kernel
theorem T3_ty : ∀ f, f < 3 → parseFieldDescriptor (T3 f).2.2.1 = some (fty 3 f) := by decide +kernel
theorem T3_nm : ∀ a, a < 3 → ∀ b, b < 3 → a ≠ b → (T3 a).2.1 ≠ (T3 b).2.1 := by decide +kernel
theorem T3_dc : ∀ f, f < 3 → (T3 f).1 = "TypedBlood$Ranking" := by decide +kernel
theorem T4_ty : ∀ f, f < 26 → parseFieldDescriptor (T4 f).2.2.1 = some (fty 4 f) := by decide +kernel
theorem T4_nm : ∀ a, a < 26 → ∀ b, b < 26 → a ≠ b → (T4 a).2.1 ≠ (T4 b).2.1 := by decide +kernel
theorem T4_dc : ∀ f, f < 26 → (T4 f).1 = "TypedBloodModel" := by decide +kernel
/-- words that stay under warmer tables -/
def gw (w : Cond) : Bool := goodWord w || (match w with
  | .castable _ _ => true
  | .arrayOver (.object _) => true
  | _ => false)
def wd (w : Cond) : Prop := w ∈ lw_tbl ∧ gw w = true
theorem gw_at {w : Cond} (hg : gw w = true) {s U : State} {A A' : Array Value} (hW : s.WarmedH U.vm) (h : w.before A s = true) : w.before A' U = true := by
  by_cases hq : goodWord w = true
  · exact word_at hW (good_of_word hq) h
  · have hn : goodWord w = false := by simpa using hq
    unfold gw at hg
    rw [hn] at hg
    cases w with
    | castable C T => exact va_Nw.use rfl (va_Nw.warmC hW (va_Nw.of rfl h))
    | arrayOver ty =>
      cases ty with
      | object C => exact va_AO.use (va_AO.moved hW.alike (va_AO.of h))
      | _ => exact Bool.noConfusion hg
    | _ => exact Bool.noConfusion hg
def xN (x : Nat) : String := cond (Nat.beq x 0) "java/lang/IllegalArgumentException" (cond (Nat.beq x 1) "java/lang/IllegalStateException" (cond (Nat.beq x 2) "java/util/NoSuchElementException" (cond (Nat.beq x 3) "java/lang/UnsupportedOperationException" "java/lang/IndexOutOfBoundsException")))
def xI (x : Nat) : Nat := cond (Nat.beq x 0) 13 (cond (Nat.beq x 1) 19 (cond (Nat.beq x 2) 25 (cond (Nat.beq x 3) 31 85)))
theorem ev_five {ci : Nat} (q : ci < 5) : ci = 0 ∨ ci = 1 ∨ ci = 2 ∨ ci = 3 ∨ ci = 4 := by omega
/-! words of the tables, by their places -/
theorem ly_0_0 : u_lay "TypedBlood" T0 0 ∈ lw_tbl.filter goodWord := List.mem_filter.mpr ⟨List.mem_of_getElem? (i := 85) (by decide +kernel), by decide +kernel⟩
theorem ly_0_1 : u_lay "TypedBlood" T0 1 ∈ lw_tbl.filter goodWord := List.mem_filter.mpr ⟨List.mem_of_getElem? (i := 87) (by decide +kernel), by decide +kernel⟩
theorem ly_0_2 : u_lay "TypedBlood" T0 2 ∈ lw_tbl.filter goodWord := List.mem_filter.mpr ⟨List.mem_of_getElem? (i := 89) (by decide +kernel), by decide +kernel⟩
theorem ly_0_3 : u_lay "TypedBlood" T0 3 ∈ lw_tbl.filter goodWord := List.mem_filter.mpr ⟨List.mem_of_getElem? (i := 91) (by decide +kernel), by decide +kernel⟩
theorem ly_0_4 : u_lay "TypedBlood" T0 4 ∈ lw_tbl.filter goodWord := List.mem_filter.mpr ⟨List.mem_of_getElem? (i := 93) (by decide +kernel), by decide +kernel⟩
theorem ly_0_5 : u_lay "TypedBlood" T0 5 ∈ lw_tbl.filter goodWord := List.mem_filter.mpr ⟨List.mem_of_getElem? (i := 95) (by decide +kernel), by decide +kernel⟩
theorem ly_0_6 : u_lay "TypedBlood" T0 6 ∈ lw_tbl.filter goodWord := List.mem_filter.mpr ⟨List.mem_of_getElem? (i := 97) (by decide +kernel), by decide +kernel⟩
theorem ly_0_7 : u_lay "TypedBlood" T0 7 ∈ lw_tbl.filter goodWord := List.mem_filter.mpr ⟨List.mem_of_getElem? (i := 99) (by decide +kernel), by decide +kernel⟩
theorem T0_in : ∀ f, f < 8 → u_lay "TypedBlood" T0 f ∈ lw_tbl.filter goodWord := by
  intro f hf
  have e : f = 0 ∨ f = 1 ∨ f = 2 ∨ f = 3 ∨ f = 4 ∨ f = 5 ∨ f = 6 ∨ f = 7 := by omega
  rcases e with rfl | rfl | rfl | rfl | rfl | rfl | rfl | rfl
  · exact ly_0_0
  · exact ly_0_1
  · exact ly_0_2
  · exact ly_0_3
  · exact ly_0_4
  · exact ly_0_5
  · exact ly_0_6
  · exact ly_0_7
theorem ly_1_0 : u_lay "TypedBlood$Unit" T1 0 ∈ lw_tbl.filter goodWord := List.mem_filter.mpr ⟨List.mem_of_getElem? (i := 265) (by decide +kernel), by decide +kernel⟩
theorem ly_1_1 : u_lay "TypedBlood$Unit" T1 1 ∈ lw_tbl.filter goodWord := List.mem_filter.mpr ⟨List.mem_of_getElem? (i := 267) (by decide +kernel), by decide +kernel⟩
theorem ly_1_2 : u_lay "TypedBlood$Unit" T1 2 ∈ lw_tbl.filter goodWord := List.mem_filter.mpr ⟨List.mem_of_getElem? (i := 269) (by decide +kernel), by decide +kernel⟩
theorem ly_1_3 : u_lay "TypedBlood$Unit" T1 3 ∈ lw_tbl.filter goodWord := List.mem_filter.mpr ⟨List.mem_of_getElem? (i := 271) (by decide +kernel), by decide +kernel⟩
theorem ly_1_4 : u_lay "TypedBlood$Unit" T1 4 ∈ lw_tbl.filter goodWord := List.mem_filter.mpr ⟨List.mem_of_getElem? (i := 273) (by decide +kernel), by decide +kernel⟩
theorem ly_1_5 : u_lay "TypedBlood$Unit" T1 5 ∈ lw_tbl.filter goodWord := List.mem_filter.mpr ⟨List.mem_of_getElem? (i := 275) (by decide +kernel), by decide +kernel⟩
theorem ly_1_6 : u_lay "TypedBlood$Unit" T1 6 ∈ lw_tbl.filter goodWord := List.mem_filter.mpr ⟨List.mem_of_getElem? (i := 277) (by decide +kernel), by decide +kernel⟩
theorem ly_1_7 : u_lay "TypedBlood$Unit" T1 7 ∈ lw_tbl.filter goodWord := List.mem_filter.mpr ⟨List.mem_of_getElem? (i := 279) (by decide +kernel), by decide +kernel⟩
theorem ly_1_8 : u_lay "TypedBlood$Unit" T1 8 ∈ lw_tbl.filter goodWord := List.mem_filter.mpr ⟨List.mem_of_getElem? (i := 281) (by decide +kernel), by decide +kernel⟩
theorem ly_1_9 : u_lay "TypedBlood$Unit" T1 9 ∈ lw_tbl.filter goodWord := List.mem_filter.mpr ⟨List.mem_of_getElem? (i := 283) (by decide +kernel), by decide +kernel⟩
theorem ly_1_10 : u_lay "TypedBlood$Unit" T1 10 ∈ lw_tbl.filter goodWord := List.mem_filter.mpr ⟨List.mem_of_getElem? (i := 285) (by decide +kernel), by decide +kernel⟩
theorem ly_1_11 : u_lay "TypedBlood$Unit" T1 11 ∈ lw_tbl.filter goodWord := List.mem_filter.mpr ⟨List.mem_of_getElem? (i := 287) (by decide +kernel), by decide +kernel⟩
theorem ly_1_12 : u_lay "TypedBlood$Unit" T1 12 ∈ lw_tbl.filter goodWord := List.mem_filter.mpr ⟨List.mem_of_getElem? (i := 289) (by decide +kernel), by decide +kernel⟩
theorem ly_1_13 : u_lay "TypedBlood$Unit" T1 13 ∈ lw_tbl.filter goodWord := List.mem_filter.mpr ⟨List.mem_of_getElem? (i := 291) (by decide +kernel), by decide +kernel⟩
theorem ly_1_14 : u_lay "TypedBlood$Unit" T1 14 ∈ lw_tbl.filter goodWord := List.mem_filter.mpr ⟨List.mem_of_getElem? (i := 293) (by decide +kernel), by decide +kernel⟩
theorem T1_in : ∀ f, f < 15 → u_lay "TypedBlood$Unit" T1 f ∈ lw_tbl.filter goodWord := by
  intro f hf
  have e : f = 0 ∨ f = 1 ∨ f = 2 ∨ f = 3 ∨ f = 4 ∨ f = 5 ∨ f = 6 ∨ f = 7 ∨ f = 8 ∨ f = 9 ∨ f = 10 ∨ f = 11 ∨ f = 12 ∨ f = 13 ∨ f = 14 := by omega
  rcases e with rfl | rfl | rfl | rfl | rfl | rfl | rfl | rfl | rfl | rfl | rfl | rfl | rfl | rfl | rfl
  · exact ly_1_0
  · exact ly_1_1
  · exact ly_1_2
  · exact ly_1_3
  · exact ly_1_4
  · exact ly_1_5
  · exact ly_1_6
  · exact ly_1_7
  · exact ly_1_8
  · exact ly_1_9
  · exact ly_1_10
  · exact ly_1_11
  · exact ly_1_12
  · exact ly_1_13
  · exact ly_1_14
theorem ly_2_0 : u_lay "TypedBlood$Patient" T2 0 ∈ lw_tbl.filter goodWord := List.mem_filter.mpr ⟨List.mem_of_getElem? (i := 433) (by decide +kernel), by decide +kernel⟩
theorem ly_2_1 : u_lay "TypedBlood$Patient" T2 1 ∈ lw_tbl.filter goodWord := List.mem_filter.mpr ⟨List.mem_of_getElem? (i := 435) (by decide +kernel), by decide +kernel⟩
theorem ly_2_2 : u_lay "TypedBlood$Patient" T2 2 ∈ lw_tbl.filter goodWord := List.mem_filter.mpr ⟨List.mem_of_getElem? (i := 437) (by decide +kernel), by decide +kernel⟩
theorem ly_2_3 : u_lay "TypedBlood$Patient" T2 3 ∈ lw_tbl.filter goodWord := List.mem_filter.mpr ⟨List.mem_of_getElem? (i := 439) (by decide +kernel), by decide +kernel⟩
theorem ly_2_4 : u_lay "TypedBlood$Patient" T2 4 ∈ lw_tbl.filter goodWord := List.mem_filter.mpr ⟨List.mem_of_getElem? (i := 441) (by decide +kernel), by decide +kernel⟩
theorem ly_2_5 : u_lay "TypedBlood$Patient" T2 5 ∈ lw_tbl.filter goodWord := List.mem_filter.mpr ⟨List.mem_of_getElem? (i := 443) (by decide +kernel), by decide +kernel⟩
theorem ly_2_6 : u_lay "TypedBlood$Patient" T2 6 ∈ lw_tbl.filter goodWord := List.mem_filter.mpr ⟨List.mem_of_getElem? (i := 445) (by decide +kernel), by decide +kernel⟩
theorem T2_in : ∀ f, f < 7 → u_lay "TypedBlood$Patient" T2 f ∈ lw_tbl.filter goodWord := by
  intro f hf
  have e : f = 0 ∨ f = 1 ∨ f = 2 ∨ f = 3 ∨ f = 4 ∨ f = 5 ∨ f = 6 := by omega
  rcases e with rfl | rfl | rfl | rfl | rfl | rfl | rfl
  · exact ly_2_0
  · exact ly_2_1
  · exact ly_2_2
  · exact ly_2_3
  · exact ly_2_4
  · exact ly_2_5
  · exact ly_2_6
theorem ly_3_0 : u_lay "TypedBlood$Ranking" T3 0 ∈ lw_tbl.filter goodWord := List.mem_filter.mpr ⟨List.mem_of_getElem? (i := 69) (by decide +kernel), by decide +kernel⟩
theorem ly_3_1 : u_lay "TypedBlood$Ranking" T3 1 ∈ lw_tbl.filter goodWord := List.mem_filter.mpr ⟨List.mem_of_getElem? (i := 71) (by decide +kernel), by decide +kernel⟩
theorem ly_3_2 : u_lay "TypedBlood$Ranking" T3 2 ∈ lw_tbl.filter goodWord := List.mem_filter.mpr ⟨List.mem_of_getElem? (i := 73) (by decide +kernel), by decide +kernel⟩
theorem T3_in : ∀ f, f < 3 → u_lay "TypedBlood$Ranking" T3 f ∈ lw_tbl.filter goodWord := by
  intro f hf
  have e : f = 0 ∨ f = 1 ∨ f = 2 := by omega
  rcases e with rfl | rfl | rfl
  · exact ly_3_0
  · exact ly_3_1
  · exact ly_3_2
theorem ly_4_0 : u_lay "TypedBloodModel" T4 0 ∈ lw_tbl.filter goodWord := List.mem_filter.mpr ⟨List.mem_of_getElem? (i := 782) (by decide +kernel), by decide +kernel⟩
theorem ly_4_1 : u_lay "TypedBloodModel" T4 1 ∈ lw_tbl.filter goodWord := List.mem_filter.mpr ⟨List.mem_of_getElem? (i := 784) (by decide +kernel), by decide +kernel⟩
theorem ly_4_2 : u_lay "TypedBloodModel" T4 2 ∈ lw_tbl.filter goodWord := List.mem_filter.mpr ⟨List.mem_of_getElem? (i := 786) (by decide +kernel), by decide +kernel⟩
theorem ly_4_3 : u_lay "TypedBloodModel" T4 3 ∈ lw_tbl.filter goodWord := List.mem_filter.mpr ⟨List.mem_of_getElem? (i := 788) (by decide +kernel), by decide +kernel⟩
theorem ly_4_4 : u_lay "TypedBloodModel" T4 4 ∈ lw_tbl.filter goodWord := List.mem_filter.mpr ⟨List.mem_of_getElem? (i := 790) (by decide +kernel), by decide +kernel⟩
theorem ly_4_5 : u_lay "TypedBloodModel" T4 5 ∈ lw_tbl.filter goodWord := List.mem_filter.mpr ⟨List.mem_of_getElem? (i := 792) (by decide +kernel), by decide +kernel⟩
theorem ly_4_6 : u_lay "TypedBloodModel" T4 6 ∈ lw_tbl.filter goodWord := List.mem_filter.mpr ⟨List.mem_of_getElem? (i := 794) (by decide +kernel), by decide +kernel⟩
theorem ly_4_7 : u_lay "TypedBloodModel" T4 7 ∈ lw_tbl.filter goodWord := List.mem_filter.mpr ⟨List.mem_of_getElem? (i := 796) (by decide +kernel), by decide +kernel⟩
theorem ly_4_8 : u_lay "TypedBloodModel" T4 8 ∈ lw_tbl.filter goodWord := List.mem_filter.mpr ⟨List.mem_of_getElem? (i := 798) (by decide +kernel), by decide +kernel⟩
theorem ly_4_9 : u_lay "TypedBloodModel" T4 9 ∈ lw_tbl.filter goodWord := List.mem_filter.mpr ⟨List.mem_of_getElem? (i := 800) (by decide +kernel), by decide +kernel⟩
theorem ly_4_10 : u_lay "TypedBloodModel" T4 10 ∈ lw_tbl.filter goodWord := List.mem_filter.mpr ⟨List.mem_of_getElem? (i := 802) (by decide +kernel), by decide +kernel⟩
theorem ly_4_11 : u_lay "TypedBloodModel" T4 11 ∈ lw_tbl.filter goodWord := List.mem_filter.mpr ⟨List.mem_of_getElem? (i := 804) (by decide +kernel), by decide +kernel⟩
theorem ly_4_12 : u_lay "TypedBloodModel" T4 12 ∈ lw_tbl.filter goodWord := List.mem_filter.mpr ⟨List.mem_of_getElem? (i := 806) (by decide +kernel), by decide +kernel⟩
theorem ly_4_13 : u_lay "TypedBloodModel" T4 13 ∈ lw_tbl.filter goodWord := List.mem_filter.mpr ⟨List.mem_of_getElem? (i := 808) (by decide +kernel), by decide +kernel⟩
theorem ly_4_14 : u_lay "TypedBloodModel" T4 14 ∈ lw_tbl.filter goodWord := List.mem_filter.mpr ⟨List.mem_of_getElem? (i := 810) (by decide +kernel), by decide +kernel⟩
theorem ly_4_15 : u_lay "TypedBloodModel" T4 15 ∈ lw_tbl.filter goodWord := List.mem_filter.mpr ⟨List.mem_of_getElem? (i := 812) (by decide +kernel), by decide +kernel⟩
theorem ly_4_16 : u_lay "TypedBloodModel" T4 16 ∈ lw_tbl.filter goodWord := List.mem_filter.mpr ⟨List.mem_of_getElem? (i := 814) (by decide +kernel), by decide +kernel⟩
theorem ly_4_17 : u_lay "TypedBloodModel" T4 17 ∈ lw_tbl.filter goodWord := List.mem_filter.mpr ⟨List.mem_of_getElem? (i := 816) (by decide +kernel), by decide +kernel⟩
theorem ly_4_18 : u_lay "TypedBloodModel" T4 18 ∈ lw_tbl.filter goodWord := List.mem_filter.mpr ⟨List.mem_of_getElem? (i := 818) (by decide +kernel), by decide +kernel⟩
theorem ly_4_19 : u_lay "TypedBloodModel" T4 19 ∈ lw_tbl.filter goodWord := List.mem_filter.mpr ⟨List.mem_of_getElem? (i := 820) (by decide +kernel), by decide +kernel⟩
theorem ly_4_20 : u_lay "TypedBloodModel" T4 20 ∈ lw_tbl.filter goodWord := List.mem_filter.mpr ⟨List.mem_of_getElem? (i := 822) (by decide +kernel), by decide +kernel⟩
theorem ly_4_21 : u_lay "TypedBloodModel" T4 21 ∈ lw_tbl.filter goodWord := List.mem_filter.mpr ⟨List.mem_of_getElem? (i := 824) (by decide +kernel), by decide +kernel⟩
theorem ly_4_22 : u_lay "TypedBloodModel" T4 22 ∈ lw_tbl.filter goodWord := List.mem_filter.mpr ⟨List.mem_of_getElem? (i := 826) (by decide +kernel), by decide +kernel⟩
theorem ly_4_23 : u_lay "TypedBloodModel" T4 23 ∈ lw_tbl.filter goodWord := List.mem_filter.mpr ⟨List.mem_of_getElem? (i := 828) (by decide +kernel), by decide +kernel⟩
theorem ly_4_24 : u_lay "TypedBloodModel" T4 24 ∈ lw_tbl.filter goodWord := List.mem_filter.mpr ⟨List.mem_of_getElem? (i := 830) (by decide +kernel), by decide +kernel⟩
theorem ly_4_25 : u_lay "TypedBloodModel" T4 25 ∈ lw_tbl.filter goodWord := List.mem_filter.mpr ⟨List.mem_of_getElem? (i := 832) (by decide +kernel), by decide +kernel⟩
theorem T4_in : ∀ f, f < 26 → u_lay "TypedBloodModel" T4 f ∈ lw_tbl.filter goodWord := by
  intro f hf
  have e : f = 0 ∨ f = 1 ∨ f = 2 ∨ f = 3 ∨ f = 4 ∨ f = 5 ∨ f = 6 ∨ f = 7 ∨ f = 8 ∨ f = 9 ∨ f = 10 ∨ f = 11 ∨ f = 12 ∨ f = 13 ∨ f = 14 ∨ f = 15 ∨ f = 16 ∨ f = 17 ∨ f = 18 ∨ f = 19 ∨ f = 20 ∨ f = 21 ∨ f = 22 ∨ f = 23 ∨ f = 24 ∨ f = 25 := by omega
  rcases e with rfl | rfl | rfl | rfl | rfl | rfl | rfl | rfl | rfl | rfl | rfl | rfl | rfl | rfl | rfl | rfl | rfl | rfl | rfl | rfl | rfl | rfl | rfl | rfl | rfl | rfl
  · exact ly_4_0
  · exact ly_4_1
  · exact ly_4_2
  · exact ly_4_3
  · exact ly_4_4
  · exact ly_4_5
  · exact ly_4_6
  · exact ly_4_7
  · exact ly_4_8
  · exact ly_4_9
  · exact ly_4_10
  · exact ly_4_11
  · exact ly_4_12
  · exact ly_4_13
  · exact ly_4_14
  · exact ly_4_15
  · exact ly_4_16
  · exact ly_4_17
  · exact ly_4_18
  · exact ly_4_19
  · exact ly_4_20
  · exact ly_4_21
  · exact ly_4_22
  · exact ly_4_23
  · exact ly_4_24
  · exact ly_4_25
theorem xl_0 : wd (.classLink "TypedBloodLaw" 13 "java/lang/IllegalArgumentException") ∧ wd (.castable "java/lang/IllegalArgumentException" "java/lang/IllegalArgumentException") := ⟨⟨List.mem_of_getElem? (i := 105) (by decide +kernel), by decide +kernel⟩, ⟨List.mem_of_getElem? (i := 113) (by decide +kernel), by decide +kernel⟩⟩
theorem xl_1 : wd (.classLink "TypedBloodLaw" 19 "java/lang/IllegalStateException") ∧ wd (.castable "java/lang/IllegalStateException" "java/lang/IllegalStateException") := ⟨⟨List.mem_of_getElem? (i := 192) (by decide +kernel), by decide +kernel⟩, ⟨List.mem_of_getElem? (i := 212) (by decide +kernel), by decide +kernel⟩⟩
theorem xl_2 : wd (.classLink "TypedBloodLaw" 25 "java/util/NoSuchElementException") ∧ wd (.castable "java/util/NoSuchElementException" "java/util/NoSuchElementException") := ⟨⟨List.mem_of_getElem? (i := 303) (by decide +kernel), by decide +kernel⟩, ⟨List.mem_of_getElem? (i := 314) (by decide +kernel), by decide +kernel⟩⟩
theorem xl_3 : wd (.classLink "TypedBloodLaw" 31 "java/lang/UnsupportedOperationException") ∧ wd (.castable "java/lang/UnsupportedOperationException" "java/lang/UnsupportedOperationException") := ⟨⟨List.mem_of_getElem? (i := 337) (by decide +kernel), by decide +kernel⟩, ⟨List.mem_of_getElem? (i := 365) (by decide +kernel), by decide +kernel⟩⟩
theorem xl_4 : wd (.classLink "TypedBloodLaw" 85 "java/lang/IndexOutOfBoundsException") ∧ wd (.castable "java/lang/IndexOutOfBoundsException" "java/lang/IndexOutOfBoundsException") := ⟨⟨List.mem_of_getElem? (i := 642) (by decide +kernel), by decide +kernel⟩, ⟨List.mem_of_getElem? (i := 649) (by decide +kernel), by decide +kernel⟩⟩
theorem xl : ∀ y, y < 5 → wd (.classLink "TypedBloodLaw" (xI y) (xN y)) ∧ wd (.castable (xN y) (xN y)) := by
  intro y hy
  rcases ev_five hy with rfl | rfl | rfl | rfl | rfl
  · exact xl_0
  · exact xl_1
  · exact xl_2
  · exact xl_3
  · exact xl_4
end
section
/-! where a walk stands: the launch, the law's start and its arguments, the classes' numbers and slots, array classes (0 int, 1 long, 2 Unit, 3 Patient), the old arrays (0 script, 1 ADDED_MARK, 2 PRODUCT_LIMIT): places, lengths, contents -/
abbrev ev_E : Type := Launch × State × Array Value × va_G × (Nat → ClassId) × (Nat → Nat) × (Nat → Nat) × (Nat → Nat → Int32)
def eL (E : ev_E) : Launch := E.1
def eS (E : ev_E) : State := E.2.1
def eA (E : ev_E) : Array Value := E.2.2.1
def eD (E : ev_E) : va_G := E.2.2.2.1
def eC (E : ev_E) : Nat → ClassId := E.2.2.2.2.1
def eO (E : ev_E) : Nat → Nat := E.2.2.2.2.2.1
def eN (E : ev_E) : Nat → Nat := E.2.2.2.2.2.2.1
def eX (E : ev_E) : Nat → Nat → Int32 := E.2.2.2.2.2.2.2
def eZ (E : ev_E) : Nat := (eS E).heap.size
def ZM : Nat := 4096
/-- a method: its name, bytes, locals, answer, table of handlers, and how deep its calls may go -/
abbrev ev_M : Type := MethodName × ByteArray × Nat × Option FieldType × List (Nat × Nat × Nat × Nat) × Nat
def mY (M : ev_M) : MethodName := M.1
def mB (M : ev_M) : ByteArray := M.2.1
def mL (M : ev_M) : Nat := M.2.2.1
def mR (M : ev_M) : Option FieldType := M.2.2.2.1
def mH (M : ev_M) : List (Nat × Nat × Nat × Nat) := M.2.2.2.2.1
def mD (M : ev_M) : Nat := M.2.2.2.2.2
def fv (h : ev_H) (ci k i f : Nat) : ev_V := cond (isI ci f) (vI (gI h k i f)) (gR h k i f)
theorem arrV_congr {cA : ClassId} {n : Nat} {f g : Nat → Value} (q : ∀ j, j < n → f j = g j) : arrV cA n f = arrV cA n g := by
  have e : (Array.ofFn (n := n) fun j => f j.val) = Array.ofFn (n := n) fun j => g j.val := by
    congr 1
    funext j
    exact q j.val j.isLt
  unfold arrV
  rw [e]
/-- a live cell in the machine's heap -/
def cr (E : ev_E) (ad : Nat → Nat → Nat) (h : ev_H) (k i : Nat) (H : Heap) : Prop :=
  ((shp k i).1 = 0 → t_OB (ad k i) ((eD E).1 (shp k i).2) (nfl (shp k i).2) ((eD E).2 (shp k i).2) H (fun f => cv ad (fv h (shp k i).2 k i f)) ∧ ∀ f, f < nfl (shp k i).2 → lvV h (fv h (shp k i).2 k i f)) ∧
  ((shp k i).1 = 1 → H[ad k i]? = some (arrV (eC E 0) (shp k i).2 (fun j => .int (gI h k i j)))) ∧
  ((shp k i).1 = 2 → H[ad k i]? = some (arrV (eC E 1) (shp k i).2 (fun j => .long (gL h k i j)))) ∧
  (3 ≤ (shp k i).1 → H[ad k i]? = some (arrV (eC E ((shp k i).1 - 1)) (shp k i).2 (fun j => cv ad (gR h k i j))) ∧ ∀ j, j < (shp k i).2 → lvV h (gR h k i j))
theorem cr_kept {E : ev_E} {ad ad' : Nat → Nat → Nat} {h h' : ev_H} {k i : Nat} {H H' : Heap} (hx : xt ad h ad' h') (ha : ad' k i = ad k i) (hq : H'[ad k i]? = H[ad k i]?) (hI : ∀ j, gI h' k i j = gI h k i j) (hR : ∀ j, gR h' k i j = gR h k i j) (hL : ∀ j, gL h' k i j = gL h k i j) (c : cr E ad h k i H) : cr E ad' h' k i H' := by
  obtain ⟨c0, c1, c2, c3⟩ := c
  have hf : ∀ ci f, fv h' ci k i f = fv h ci k i f := fun ci f => by unfold fv; rw [hI, hR]
  refine ⟨fun z => ?_, fun z => ?_, fun z => ?_, fun z => ?_⟩
  · obtain ⟨q1, q2⟩ := c0 z
    refine ⟨?_, fun f hf' => ?_⟩
    · rw [ha]
      refine (q1.kept hq).to fun f hf' => ?_
      rw [hf]
      exact ((hx.V (q2 f hf')).2).symm
    · rw [hf]
      exact (hx.V (q2 f hf')).1
  · rw [ha, hq, c1 z]
    congr 2
    funext j
    rw [hI]
  · rw [ha, hq, c2 z]
    congr 2
    funext j
    rw [hL]
  · obtain ⟨q1, q2⟩ := c3 z
    refine ⟨?_, fun j hj => ?_⟩
    · rw [ha, hq, q1]
      refine congrArg some (arrV_congr fun j hj => ?_)
      rw [hR]
      exact ((hx.V (q2 j hj)).2).symm
    · rw [hR]
      exact (hx.V (q2 j hj)).1
/-- the run's heap in the machine's -/
def Rl (E : ev_E) (ad : Nat → Nat → Nat) (h : ev_H) (H : Heap) : Prop :=
  H.size = eZ E + cZ h ∧ cZ h ≤ ZM ∧ (∀ q, q < eZ E → H[q]? = (eS E).heap[q]?) ∧ (∀ i, i < 3 → ad 5 i = eO E i) ∧
  (∀ k i, k < 4 → i < cnt h k → eZ E ≤ ad k i ∧ ad k i < H.size ∧ cr E ad h k i H) ∧
  (∀ k i k' i', k < 4 → k' < 4 → i < cnt h k → i' < cnt h k' → ad k i = ad k' i' → k = k' ∧ i = i')
theorem cnt_eq {h h' : ev_H} (q : h'.2.2.2 = h.2.2.2) (k : Nat) : cnt h' k = cnt h k := by
  unfold cnt cF cU cP cN; rw [q]
theorem xt_eq {ad : Nat → Nat → Nat} {h h' : ev_H} (q : h'.2.2.2 = h.2.2.2) : xt ad h ad h' := by
  intro k i z
  refine ⟨?_, fun _ => rfl⟩
  unfold lvs at z ⊢
  rw [cnt_eq q]
  exact z
/-- one cell is written -/
theorem Rl.st {E : ev_E} {ad : Nat → Nat → Nat} {h h' : ev_H} {H H' : Heap} {k i : Nat} (hR : Rl E ad h H) (hk : k < 4) (hi : i < cnt h k) (hz : H'.size = H.size) (ho : ∀ q, q ≠ ad k i → H'[q]? = H[q]?) (hc : h'.2.2.2 = h.2.2.2)
    (hm : ∀ k' i' j, ¬ (k' = k ∧ i' = i) → gI h' k' i' j = gI h k' i' j ∧ gR h' k' i' j = gR h k' i' j ∧ gL h' k' i' j = gL h k' i' j) (hcr : cr E ad h' k i H') : Rl E ad h' H' := by
  obtain ⟨r1, r2, r3, r4, r5, r6⟩ := hR
  have hZ : cZ h' = cZ h := by unfold cZ; rw [hc]
  refine ⟨by rw [hz, hZ]; exact r1, by rw [hZ]; exact r2, fun q hq => ?_, r4, fun k' i' a b => ?_, fun k1 i1 k2 i2 a b c d => ?_⟩
  · rw [ho q]
    · exact r3 q hq
    · have := (r5 k i hk hi).1
      omega
  · rw [cnt_eq hc] at b
    obtain ⟨q1, q2, q3⟩ := r5 k' i' a b
    refine ⟨q1, by rw [hz]; exact q2, ?_⟩
    by_cases e : k' = k ∧ i' = i
    · obtain ⟨rfl, rfl⟩ := e
      exact hcr
    · refine cr_kept (xt_eq hc) rfl (ho _ fun z => e (r6 k' i' k i a hk b hi z)) (fun j => (hm k' i' j e).1) (fun j => (hm k' i' j e).2.1) (fun j => (hm k' i' j e).2.2) q3
  · rw [cnt_eq hc] at c d
    exact r6 k1 i1 k2 i2 a b c d
def adN (ad : Nat → Nat → Nat) (k i a : Nat) : Nat → Nat → Nat := fun x y => if x = k ∧ y = i then a else ad x y
theorem cnt_nw (h : ev_H) (k k' : Nat) (hk : k < 4) (hk' : k' < 4) : cnt (nw h k) k' = cnt h k' + (if k' = k then 1 else 0) := by
  have e : k = 0 ∨ k = 1 ∨ k = 2 ∨ k = 3 := by omega
  have e' : k' = 0 ∨ k' = 1 ∨ k' = 2 ∨ k' = 3 := by omega
  rcases e with rfl | rfl | rfl | rfl <;> rcases e' with rfl | rfl | rfl | rfl <;> rfl
theorem xt_nw {ad : Nat → Nat → Nat} {h : ev_H} {k a : Nat} (hk : k < 4) : xt ad h (adN ad k (cnt h k) a) (nw h k) := by
  intro k' i z
  refine ⟨?_, fun _ => ?_⟩
  · rcases z with z | z | ⟨z1, z2⟩
    · exact Or.inl z
    · exact Or.inr (Or.inl z)
    · refine Or.inr (Or.inr ⟨z1, ?_⟩)
      rw [cnt_nw h k k' hk z1]
      omega
  · unfold adN
    rw [if_neg]
    rintro ⟨rfl, rfl⟩
    rcases z with z | z | ⟨z1, z2⟩
    · omega
    · omega
    · omega
/-- one cell is made -/
theorem Rl.new1 {E : ev_E} {ad : Nat → Nat → Nat} {h : ev_H} {H H' : Heap} {k : Nat} (hR : Rl E ad h H) (hk : k < 4) (hZ : cZ h < ZM) (hz : H'.size = H.size + 1) (ho : ∀ q, q < H.size → H'[q]? = H[q]?)
    (hcr : cr E (adN ad k (cnt h k) H.size) (nw h k) k (cnt h k) H') : Rl E (adN ad k (cnt h k) H.size) (nw h k) H' := by
  obtain ⟨r1, r2, r3, r4, r5, r6⟩ := hR
  have hx : xt ad h (adN ad k (cnt h k) H.size) (nw h k) := xt_nw hk
  have hold : ∀ k' i', k' < 4 → i' < cnt (nw h k) k' → (k' = k ∧ i' = cnt h k) ∨ (i' < cnt h k' ∧ ¬ (k' = k ∧ i' = cnt h k)) := by
    intro k' i' a b
    rw [cnt_nw h k k' hk a] at b
    by_cases e : k' = k ∧ i' = cnt h k
    · exact Or.inl e
    · refine Or.inr ⟨?_, e⟩
      by_cases e2 : k' = k
      · subst e2
        rw [if_pos rfl] at b
        have : ¬ i' = cnt h k' := fun z => e ⟨rfl, z⟩
        omega
      · rw [if_neg e2] at b
        omega
  have hZ' : cZ (nw h k) = cZ h + 1 := rfl
  refine ⟨by rw [hz, hZ', r1]; omega, by rw [hZ']; exact hZ, fun q hq => ?_, fun i hi => ?_, fun k' i' a b => ?_, fun k1 i1 k2 i2 a b c d e => ?_⟩
  · rw [ho q (by omega)]
    exact r3 q hq
  · show (if 5 = k ∧ i = cnt h k then H.size else ad 5 i) = _
    rw [if_neg (by omega)]
    exact r4 i hi
  · rcases hold k' i' a b with ⟨rfl, rfl⟩ | ⟨e1, e2⟩
    · have : adN ad k' (cnt h k') H.size k' (cnt h k') = H.size := by unfold adN; rw [if_pos ⟨rfl, rfl⟩]
      refine ⟨by rw [this]; omega, by rw [this]; omega, hcr⟩
    · obtain ⟨q1, q2, q3⟩ := r5 k' i' a e1
      have e3 : adN ad k (cnt h k) H.size k' i' = ad k' i' := by unfold adN; rw [if_neg e2]
      refine ⟨by rw [e3]; exact q1, by rw [e3]; omega, ?_⟩
      refine cr_kept hx e3 (ho _ q2) (fun j => ?_) (fun j => ?_) (fun j => ?_) q3
      · show (if k' = k ∧ i' = cnt h k then _ else _) = _
        rw [if_neg e2]; rfl
      · show (if k' = k ∧ i' = cnt h k then _ else _) = _
        rw [if_neg e2]; rfl
      · show (if k' = k ∧ i' = cnt h k then _ else _) = _
        rw [if_neg e2]; rfl
  · rcases hold k1 i1 a c with ⟨rfl, rfl⟩ | ⟨e1, e2⟩
    · rcases hold k2 i2 b d with ⟨rfl, rfl⟩ | ⟨e3, e4⟩
      · exact ⟨rfl, rfl⟩
      · exfalso
        unfold adN at e
        rw [if_pos ⟨rfl, rfl⟩, if_neg e4] at e
        have := (r5 k2 i2 b e3).2.1
        omega
    · rcases hold k2 i2 b d with ⟨rfl, rfl⟩ | ⟨e3, e4⟩
      · exfalso
        unfold adN at e
        rw [if_neg e2, if_pos ⟨rfl, rfl⟩] at e
        have := (r5 k1 i1 a e1).2.1
        omega
      · unfold adN at e
        rw [if_neg e2, if_neg e4] at e
        exact r6 k1 i1 k2 i2 a b e1 e3 e
theorem xt_nx {ad : Nat → Nat → Nat} {h : ev_H} : xt ad h ad (nx h) := fun _ _ z => ⟨z, fun _ => rfl⟩
theorem Rl.thr1 {E : ev_E} {ad : Nat → Nat → Nat} {h : ev_H} {H H' : Heap} (hR : Rl E ad h H) (hZ : cZ h < ZM) (hz : H'.size = H.size + 1) (ho : ∀ q, q < H.size → H'[q]? = H[q]?) : Rl E ad (nx h) H' := by
  obtain ⟨r1, r2, r3, r4, r5, r6⟩ := hR
  have hZ' : cZ (nx h) = cZ h + 1 := rfl
  refine ⟨by rw [hz, hZ', r1]; omega, by rw [hZ']; exact hZ, fun q hq => ?_, r4, fun k' i' a b => ?_, r6⟩
  · rw [ho q (by omega)]
    exact r3 q hq
  · obtain ⟨q1, q2, q3⟩ := r5 k' i' a b
    exact ⟨q1, by omega, cr_kept xt_nx rfl (ho _ q2) (fun _ => rfl) (fun _ => rfl) (fun _ => rfl) q3⟩
end
section
/-! the words that hold at the law's start; where a method's walk stands; its end -/
/-- what holds at the law's start -/
def ev_G (E : ev_E) : Prop :=
  (eL E).stackTraces = false ∧ (∀ w ∈ lw_tbl, w.before (eA E) (eS E) = true) ∧
  va_K (eD E) vC [(eC E 0, .int), (eC E 1, .long), (eC E 2, .object "TypedBlood$Unit"), (eC E 3, .object "TypedBlood$Patient")] (eS E) ∧
  (∀ i, i < 3 → eO E i < eZ E ∧ va_X (eO E i) (eN E i) (eX E i) (eS E) (eS E).heap) ∧
  (∀ i, i < 2 → va_Z "TypedBlood" (cond (Nat.beq i 0) "ADDED_MARK" "PRODUCT_LIMIT") "[I" (.ref (eO E (i + 1))) (fun q => eZ E ≤ q) (eS E) (eS E).heap) ∧
  vx_Zq Bundle.tN "UNASSIGNED_STACK" Bundle.steD (fun q => eZ E ≤ q) (eS E) (eS E).heap ∧ vx_Zq Bundle.tN "SUPPRESSED_SENTINEL" Bundle.listD (fun q => eZ E ≤ q) (eS E) (eS E).heap ∧
  (∀ own is text, Cond.stringRef own is text ∈ lw_tbl → ∃ sa, vk_R own is text sa (eS E)) ∧
  (∀ x y, x < 5 → y < 5 → x ≠ y → va_Nc (xN x) (xN y) (eS E))
/-- a method's invocation -/
def ev_I (E : ev_E) (M : ev_M) (p : Program) (R : Room) (s : State) (m : MethodId) (meth : Method) (c : Code) : Prop :=
  p.tables.exec = Jvm.exec ∧ c.code = mB M ∧ meth.sig.returnType = mR M ∧ c.maxLocals = mL M ∧ s.vm.findClass (mY M).cls = some m.cls ∧ meth.name = (mY M).name ∧ meth.locks = false ∧ c.exceptionTable.toList = tableOf (mH M) ∧
  (eS E).WarmedH s.vm ∧ (∀ q, q < eZ E → s.heap[q]? = (eS E).heap[q]?) ∧ eZ E ≤ s.heap.size ∧ mD M + 2 ≤ R.frames ∧ 30 * mD M + 124 ≤ R.locals ∧ eZ E + ZM ≤ s.heap.size + R.cells ∧ 512 * (eZ E + ZM - s.heap.size) ≤ R.slots
def ev_C (E : ev_E) (M : ev_M) (p : Program) (R : Room) (s : State) (m : MethodId) (meth : Method) (c : Code) (H : Heap) (locs : List Loc) (cells slots : Nat) (ad ad0 : Nat → Nat → Nat) (h h0 : ev_H) : Prop :=
  ev_G E ∧ ev_I E M p R s m meth c ∧ Rl E ad h H ∧ s.heap.size ≤ H.size ∧ cells = H.size - s.heap.size ∧ slots = 512 * (H.size - s.heap.size) ∧ (∀ q ∈ locs, eZ E ≤ q.base) ∧ xt ad0 h0 ad h
/-- how a method ended -/
def ev_O (ad : Nat → Nat → Nat) (h : ev_H) (s : State) (r : Option ev_V ⊕ Nat) (o : Outcome) (t : State) : Prop := match r with
  | .inl none => o = .returned none
  | .inl (some v) => o = .returned (some (cv ad v)) ∧ lvV h v
  | .inr x => x < 5 ∧ ∃ q ce, o = .threw q ∧ t.heap[q]? = some ce ∧ ce.vm = .none ∧ s.vm.findClass (xN x) = some ce.cls
def ev_Q (E : ev_E) (s : State) (ad0 : Nat → Nat → Nat) (h0 : ev_H) (P : Option ev_V ⊕ Nat → ev_H → Prop) (o : Outcome) (t : State) : Prop :=
  ∃ r h' ad', s.WarmedH t.vm ∧ (∃ L, s.sameButNew ({ t with vm := s.vm } : State) L (t.heap.size - s.heap.size) (512 * (t.heap.size - s.heap.size)) ∧ ∀ q ∈ L, eZ E ≤ q.base) ∧
    Rl E ad' h' t.heap ∧ xt ad0 h0 ad' h' ∧ ev_O ad' h' s r o t ∧ P r h'
def ev_QE (E : ev_E) (s : State) (below : List Frame) (ad0 : Nat → Nat → Nat) (h0 : ev_H) (P : Option ev_V ⊕ Nat → ev_H → Prop) : State → Prop := fun t => ∃ o, t.status = .running ∧ Ended t below o ∧ ev_Q E s ad0 h0 P o t
def Ev (E : ev_E) (M : ev_M) (pc : Nat) (ls : List (Nat × ev_V)) (st : List ev_V) (h : ev_H) (P : Option ev_V ⊕ Nat → ev_H → Prop) : Prop :=
  ∀ (p : Program) (e : Env) (R : Room) (s : State) (m : MethodId) (args : Array Value) (below : List Frame) (meth : Method) (c : Code) (H : Heap) (locs : List Loc) (cells slots : Nat) (lsA : Array Slot) (ad ad0 : Nat → Nat → Nat) (h0 : ev_H),
    ev_C E M p R s m meth c H locs cells slots ad ad0 h h0 → ev_LR ad h (mL M) ls lsA → lvS h st →
    W p (eL E) e R s m args below meth c H locs cells slots (ev_QE E s below ad0 h0 P) (F0 m pc lsA (st.map (cv ad)))
theorem W.mono {p : Program} {l : Launch} {e : Env} {R : Room} {s : State} {m : MethodId} {args : Array Value} {below : List Frame} {meth : Method} {c : Code} {H : Heap} {locs : List Loc} {cells slots : Nat} {Q Q' : State → Prop} {g : JFrame} (hq : ∀ t, Q t → Q' t) (k : W p l e R s m args below meth c H locs cells slots Q g) : W p l e R s m args below meth c H locs cells slots Q' g := by
  intro T hT X
  obtain ⟨t, a, b⟩ := k T hT X
  exact ⟨t, a, hq t b⟩
section EvC
variable {E : ev_E} {M : ev_M} {p : Program} {R : Room} {s : State} {m : MethodId} {meth : Method} {c : Code} {H : Heap} {locs : List Loc} {cells slots : Nat} {ad ad0 : Nat → Nat → Nat} {h h0 : ev_H}
theorem ev_C.ex (q : ev_C E M p R s m meth c H locs cells slots ad ad0 h h0) : p.tables.exec = Jvm.exec := q.2.1.1
theorem ev_C.cd (q : ev_C E M p R s m meth c H locs cells slots ad ad0 h h0) : c.code = mB M := q.2.1.2.1
theorem ev_C.ml (q : ev_C E M p R s m meth c H locs cells slots ad ad0 h h0) : c.maxLocals = mL M := q.2.1.2.2.2.1
theorem ev_C.own (q : ev_C E M p R s m meth c H locs cells slots ad ad0 h h0) : s.vm.findClass (mY M).cls = some m.cls := q.2.1.2.2.2.2.1
theorem ev_C.wm (q : ev_C E M p R s m meth c H locs cells slots ad ad0 h h0) : (eS E).WarmedH s.vm := q.2.1.2.2.2.2.2.2.2.2.1
theorem ev_C.w (q : ev_C E M p R s m meth c H locs cells slots ad ad0 h h0) {w : Cond} (hw : wd w) (args : Array Value) : w.before args s = true := gw_at hw.2 q.wm (q.1.2.1 w hw.1)
theorem ev_C.hts (q : ev_C E M p R s m meth c H locs cells slots ad ad0 h h0) (args : Array Value) : ∀ w ∈ lw_tbl.filter goodWord, w.before args s = true := fun w hw => q.w ⟨(List.mem_filter.mp hw).1, by unfold gw; rw [(List.mem_filter.mp hw).2]; rfl⟩ args
theorem ev_C.K (q : ev_C E M p R s m meth c H locs cells slots ad ad0 h h0) : va_K (eD E) vC [(eC E 0, .int), (eC E 1, .long), (eC E 2, .object "TypedBlood$Unit"), (eC E 3, .object "TypedBlood$Patient")] s := va_K.moved q.wm.alike q.1.2.2.1
theorem ev_C.old (q : ev_C E M p R s m meth c H locs cells slots ad ad0 h h0) : va_S (fun z => eZ E ≤ z) s.heap H locs := by
  obtain ⟨-, i, r, z, -, -, l, -⟩ := q
  refine ⟨z, fun a _ ha => ?_, l⟩
  have hlt : a < eZ E := Nat.not_le.mp ha
  rw [r.2.2.1 a hlt, i.2.2.2.2.2.2.2.2.2.1 a hlt]
end EvC
section EvR
variable {E : ev_E} {M : ev_M} {pc : Nat} {ls : List (Nat × ev_V)} {st : List ev_V} {h : ev_H} {P : Option ev_V ⊕ Nat → ev_H → Prop}
theorem Ev_sub {ls' : List (Nat × ev_V)} (hs : ∀ i v, lget ls' i = some v → lget ls i = some v) (k : Ev E M pc ls' st h P) : Ev E M pc ls st h P :=
  fun p e R s m args below meth c H locs cells slots lsA ad ad0 h0 hC hL hS => k p e R s m args below meth c H locs cells slots lsA ad ad0 h0 hC (hL.sub hs) hS
theorem Ev_mono {P' : Option ev_V ⊕ Nat → ev_H → Prop} (hp : ∀ r h', P r h' → P' r h') (k : Ev E M pc ls st h P) : Ev E M pc ls st h P' := by
  intro p e R s m args below meth c H locs cells slots lsA ad ad0 h0 hC hL hS
  refine W.mono (fun t q => ?_) (k p e R s m args below meth c H locs cells slots lsA ad ad0 h0 hC hL hS)
  obtain ⟨o, a1, a2, r, h', ad', b1, b2, b3, b4, b5, b6⟩ := q
  exact ⟨o, a1, a2, r, h', ad', b1, b2, b3, b4, b5, hp r h' b6⟩
theorem Ev_iconst {n : Int} {v : Int32} (hd : decode (mB M) pc = .ok (.iconst n, 1)) (hv : Int32.ofInt n = v) (k : Ev E M (pc + 1) ls (vI v :: st) h P) : Ev E M pc ls st h P := by
  intro p e R s m args below meth c H locs cells slots lsA ad ad0 h0 hC hL hS
  exact lv_iconst hC.ex hC.cd hd hv (k p e R s m args below meth c H locs cells slots lsA ad ad0 h0 hC hL (lvS_i hS))
theorem Ev_bipush {n : Int} {v : Int32} (hd : decode (mB M) pc = .ok (.bipush n, 2)) (hv : (Int8.ofInt n).toInt32 = v) (k : Ev E M (pc + 2) ls (vI v :: st) h P) : Ev E M pc ls st h P := by
  intro p e R s m args below meth c H locs cells slots lsA ad ad0 h0 hC hL hS
  exact lv_bipush hC.ex hC.cd hd hv (k p e R s m args below meth c H locs cells slots lsA ad ad0 h0 hC hL (lvS_i hS))
theorem Ev_sipush {n : Int} {v : Int32} (hd : decode (mB M) pc = .ok (.sipush n, 3)) (hv : (Int16.ofInt n).toInt32 = v) (k : Ev E M (pc + 3) ls (vI v :: st) h P) : Ev E M pc ls st h P := by
  intro p e R s m args below meth c H locs cells slots lsA ad ad0 h0 hC hL hS
  exact lv_sipush hC.ex hC.cd hd hv (k p e R s m args below meth c H locs cells slots lsA ad ad0 h0 hC hL (lvS_i hS))
theorem Ev_ldc {idx : Nat} {v : Int32} (hd : decode (mB M) pc = .ok (.ldc idx, 2)) (hw : wd (.constant (mY M).cls idx v)) (k : Ev E M (pc + 2) ls (vI v :: st) h P) : Ev E M pc ls st h P := by
  intro p e R s m args below meth c H locs cells slots lsA ad ad0 h0 hC hL hS
  exact lv_ldc hC.ex hC.cd hC.own (hC.w hw args) hd (k p e R s m args below meth c H locs cells slots lsA ad ad0 h0 hC hL (lvS_i hS))
theorem Ev_ldcw {idx : Nat} {v : Int32} (hd : decode (mB M) pc = .ok (.ldc_w idx, 3)) (hw : wd (.constant (mY M).cls idx v)) (k : Ev E M (pc + 3) ls (vI v :: st) h P) : Ev E M pc ls st h P := by
  intro p e R s m args below meth c H locs cells slots lsA ad ad0 h0 hC hL hS
  exact lv_ldcw hC.ex hC.cd hC.own (hC.w hw args) hd (k p e R s m args below meth c H locs cells slots lsA ad ad0 h0 hC hL (lvS_i hS))
theorem Ev_iload {i : Nat} {x : Int32} (hd : decode (mB M) pc = .ok (.iload i, 2)) (hl : lget ls i = some (vI x)) (k : Ev E M (pc + 2) ls (vI x :: st) h P) : Ev E M pc ls st h P := by
  intro p e R s m args below meth c H locs cells slots lsA ad ad0 h0 hC hL hS
  exact lv_iload hC.ex hC.cd hd (hL.at hl).1 (k p e R s m args below meth c H locs cells slots lsA ad ad0 h0 hC hL (lvS_i hS))
theorem Ev_iload_n {i : Fin 4} {x : Int32} (hd : decode (mB M) pc = .ok (.iload_n i, 1)) (hl : lget ls i.val = some (vI x)) (k : Ev E M (pc + 1) ls (vI x :: st) h P) : Ev E M pc ls st h P := by
  intro p e R s m args below meth c H locs cells slots lsA ad ad0 h0 hC hL hS
  exact lv_iload_n hC.ex hC.cd hd rfl (hL.at hl).1 (k p e R s m args below meth c H locs cells slots lsA ad ad0 h0 hC hL (lvS_i hS))
theorem Ev_aload {i : Nat} {a b : Nat} (hd : decode (mB M) pc = .ok (.aload i, 2)) (hl : lget ls i = some (vR a b)) (k : Ev E M (pc + 2) ls (vR a b :: st) h P) : Ev E M pc ls st h P := by
  intro p e R s m args below meth c H locs cells slots lsA ad ad0 h0 hC hL hS
  obtain ⟨h1, h2⟩ := hL.at hl
  have k' := k p e R s m args below meth c H locs cells slots lsA ad ad0 h0 hC hL (lvS_c h2 hS)
  obtain ⟨z, hz⟩ : ∃ z, cv ad (vR a b) = .ref z := by
    show ∃ z, (if a = 4 then Value.ref b else Value.ref (ad a b)) = .ref z
    by_cases h4 : a = 4
    · exact ⟨b, by rw [if_pos h4]⟩
    · exact ⟨ad a b, by rw [if_neg h4]⟩
  rw [List.map_cons, hz] at k'
  rw [hz] at h1
  exact lv_aload hC.ex hC.cd hd h1 k'
theorem Ev_aload_n {i : Fin 4} {a b : Nat} (hd : decode (mB M) pc = .ok (.aload_n i, 1)) (hl : lget ls i.val = some (vR a b)) (k : Ev E M (pc + 1) ls (vR a b :: st) h P) : Ev E M pc ls st h P := by
  intro p e R s m args below meth c H locs cells slots lsA ad ad0 h0 hC hL hS
  obtain ⟨h1, h2⟩ := hL.at hl
  have k' := k p e R s m args below meth c H locs cells slots lsA ad ad0 h0 hC hL (lvS_c h2 hS)
  obtain ⟨z, hz⟩ : ∃ z, cv ad (vR a b) = .ref z := by
    show ∃ z, (if a = 4 then Value.ref b else Value.ref (ad a b)) = .ref z
    by_cases h4 : a = 4
    · exact ⟨b, by rw [if_pos h4]⟩
    · exact ⟨ad a b, by rw [if_neg h4]⟩
  rw [List.map_cons, hz] at k'
  rw [hz] at h1
  exact lv_aload_n hC.ex hC.cd hd rfl h1 k'
theorem Ev_istore {i : Nat} {x : Int32} (hd : decode (mB M) pc = .ok (.istore i, 2)) (hn : Nat.blt i (mL M) = true) (k : Ev E M (pc + 2) (lset ls i (vI x)) st h P) : Ev E M pc ls (vI x :: st) h P := by
  intro p e R s m args below meth c H locs cells slots lsA ad ad0 h0 hC hL hS
  obtain ⟨A', e1, hL'⟩ := hL.set (i := i) (by simpa [Nat.blt_eq] using hn) (v := vI x) trivial rfl
  intro T hT X
  obtain ⟨t, a, b⟩ := k p e R s m args below meth c H locs cells slots A' ad ad0 h0 hC hL' (lvS_2 hS) T hT X
  refine ⟨t, ?_, b⟩
  have e1' : storeLocals lsA i (.int x) = some A' := e1
  have hb := hC.cd
  have hexec := hC.ex
  show Steps p.tables e below (T.setTop (F0 m pc lsA (.int x :: st.map (cv ad)))) t
  jvm_step X.here [X.here.top, ↓top_set X.here.top, hexec, hb, hd, e1']
  exact a
theorem Ev_istore_n {i : Fin 4} {x : Int32} (hd : decode (mB M) pc = .ok (.istore_n i, 1)) (hn : Nat.blt i.val (mL M) = true) (k : Ev E M (pc + 1) (lset ls i.val (vI x)) st h P) : Ev E M pc ls (vI x :: st) h P := by
  intro p e R s m args below meth c H locs cells slots lsA ad ad0 h0 hC hL hS
  obtain ⟨A', e1, hL'⟩ := hL.set (i := i.val) (by simpa [Nat.blt_eq] using hn) (v := vI x) trivial rfl
  intro T hT X
  obtain ⟨t, a, b⟩ := k p e R s m args below meth c H locs cells slots A' ad ad0 h0 hC hL' (lvS_2 hS) T hT X
  refine ⟨t, ?_, b⟩
  have e1' : storeLocals lsA i.val (.int x) = some A' := e1
  have hb := hC.cd
  have hexec := hC.ex
  show Steps p.tables e below (T.setTop (F0 m pc lsA (.int x :: st.map (cv ad)))) t
  jvm_step X.here [X.here.top, ↓top_set X.here.top, hexec, hb, hd, e1']
  exact a
theorem Ev_astore {i : Nat} {a' b' : Nat} (hd : decode (mB M) pc = .ok (.astore i, 2)) (hn : Nat.blt i (mL M) = true) (k : Ev E M (pc + 2) (lset ls i (vR a' b')) st h P) : Ev E M pc ls (vR a' b' :: st) h P := by
  intro p e R s m args below meth c H locs cells slots lsA ad ad0 h0 hC hL hS
  obtain ⟨z, hz⟩ : ∃ z, cv ad (vR a' b') = .ref z := by
    show ∃ z, (if a' = 4 then Value.ref b' else Value.ref (ad a' b')) = .ref z
    by_cases h4 : a' = 4
    · exact ⟨b', by rw [if_pos h4]⟩
    · exact ⟨ad a' b', by rw [if_neg h4]⟩
  obtain ⟨A', e1, hL'⟩ := hL.set (i := i) (by simpa [Nat.blt_eq] using hn) (v := vR a' b') (lvS_1 hS) (by rw [hz]; rfl)
  intro T hT X
  obtain ⟨t, a, b⟩ := k p e R s m args below meth c H locs cells slots A' ad ad0 h0 hC hL' (lvS_2 hS) T hT X
  refine ⟨t, ?_, b⟩
  rw [hz] at e1
  have hb := hC.cd
  have hexec := hC.ex
  rw [List.map_cons, hz]
  show Steps p.tables e below (T.setTop (F0 m pc lsA (.ref z :: st.map (cv ad)))) t
  jvm_step X.here [X.here.top, ↓top_set X.here.top, hexec, hb, hd, e1, Value.isRef]
  exact a
theorem Ev_astore_n {i : Fin 4} {a' b' : Nat} (hd : decode (mB M) pc = .ok (.astore_n i, 1)) (hn : Nat.blt i.val (mL M) = true) (k : Ev E M (pc + 1) (lset ls i.val (vR a' b')) st h P) : Ev E M pc ls (vR a' b' :: st) h P := by
  intro p e R s m args below meth c H locs cells slots lsA ad ad0 h0 hC hL hS
  obtain ⟨z, hz⟩ : ∃ z, cv ad (vR a' b') = .ref z := by
    show ∃ z, (if a' = 4 then Value.ref b' else Value.ref (ad a' b')) = .ref z
    by_cases h4 : a' = 4
    · exact ⟨b', by rw [if_pos h4]⟩
    · exact ⟨ad a' b', by rw [if_neg h4]⟩
  obtain ⟨A', e1, hL'⟩ := hL.set (i := i.val) (by simpa [Nat.blt_eq] using hn) (v := vR a' b') (lvS_1 hS) (by rw [hz]; rfl)
  intro T hT X
  obtain ⟨t, a, b⟩ := k p e R s m args below meth c H locs cells slots A' ad ad0 h0 hC hL' (lvS_2 hS) T hT X
  refine ⟨t, ?_, b⟩
  rw [hz] at e1
  have hb := hC.cd
  have hexec := hC.ex
  rw [List.map_cons, hz]
  show Steps p.tables e below (T.setTop (F0 m pc lsA (.ref z :: st.map (cv ad)))) t
  jvm_step X.here [X.here.top, ↓top_set X.here.top, hexec, hb, hd, e1, Value.isRef]
  exact a
theorem Ev_iinc {i : Nat} {n : Int} {x d : Int32} (hd : decode (mB M) pc = .ok (.iinc i n, 3)) (hl : lget ls i = some (vI x)) (hv : Int32.ofInt n = d) (hn : Nat.blt i (mL M) = true) (k : Ev E M (pc + 3) (lset ls i (vI (x + d))) st h P) : Ev E M pc ls st h P := by
  intro p e R s m args below meth c H locs cells slots lsA ad ad0 h0 hC hL hS
  have hg := (hL.at hl).1
  have hg' : lsA[i]? = some (.val (.int x)) := hg
  obtain ⟨A', e1, hL'⟩ := hL.set (i := i) (by simpa [Nat.blt_eq] using hn) (v := vI (x + d)) trivial rfl
  intro T hT X
  obtain ⟨t, a, b⟩ := k p e R s m args below meth c H locs cells slots A' ad ad0 h0 hC hL' hS T hT X
  refine ⟨t, ?_, b⟩
  have e1' : storeLocals lsA i (.int (x + Int32.ofInt n)) = some A' := by rw [hv]; exact e1
  have hb := hC.cd
  have hexec := hC.ex
  jvm_step X.here [X.here.top, ↓top_set X.here.top, hexec, hb, hd, hg', e1']
  exact a
theorem Ev_iadd {x y : Int32} (hd : decode (mB M) pc = .ok (.iadd, 1)) (k : Ev E M (pc + 1) ls (vI (x + y) :: st) h P) : Ev E M pc ls (vI y :: vI x :: st) h P := by
  intro p e R s m args below meth c H locs cells slots lsA ad ad0 h0 hC hL hS
  exact lv_iadd hC.ex hC.cd hd (k p e R s m args below meth c H locs cells slots lsA ad ad0 h0 hC hL (lvS_i (lvS_2 (lvS_2 hS))))
theorem Ev_isub {x y : Int32} (hd : decode (mB M) pc = .ok (.isub, 1)) (k : Ev E M (pc + 1) ls (vI (x - y) :: st) h P) : Ev E M pc ls (vI y :: vI x :: st) h P := by
  intro p e R s m args below meth c H locs cells slots lsA ad ad0 h0 hC hL hS
  exact lv_isub hC.ex hC.cd hd (k p e R s m args below meth c H locs cells slots lsA ad ad0 h0 hC hL (lvS_i (lvS_2 (lvS_2 hS))))
theorem Ev_imul {x y : Int32} (hd : decode (mB M) pc = .ok (.imul, 1)) (k : Ev E M (pc + 1) ls (vI (x * y) :: st) h P) : Ev E M pc ls (vI y :: vI x :: st) h P := by
  intro p e R s m args below meth c H locs cells slots lsA ad ad0 h0 hC hL hS
  exact lv_imul hC.ex hC.cd hd (k p e R s m args below meth c H locs cells slots lsA ad ad0 h0 hC hL (lvS_i (lvS_2 (lvS_2 hS))))
theorem Ev_iand {x y : Int32} (hd : decode (mB M) pc = .ok (.iand, 1)) (k : Ev E M (pc + 1) ls (vI (x &&& y) :: st) h P) : Ev E M pc ls (vI y :: vI x :: st) h P := by
  intro p e R s m args below meth c H locs cells slots lsA ad ad0 h0 hC hL hS
  exact lv_iand hC.ex hC.cd hd (k p e R s m args below meth c H locs cells slots lsA ad ad0 h0 hC hL (lvS_i (lvS_2 (lvS_2 hS))))
theorem Ev_ior {x y : Int32} (hd : decode (mB M) pc = .ok (.ior, 1)) (k : Ev E M (pc + 1) ls (vI (x ||| y) :: st) h P) : Ev E M pc ls (vI y :: vI x :: st) h P := by
  intro p e R s m args below meth c H locs cells slots lsA ad ad0 h0 hC hL hS
  exact lv_ior hC.ex hC.cd hd (k p e R s m args below meth c H locs cells slots lsA ad ad0 h0 hC hL (lvS_i (lvS_2 (lvS_2 hS))))
theorem Ev_ixor {x y : Int32} (hd : decode (mB M) pc = .ok (.ixor, 1)) (k : Ev E M (pc + 1) ls (vI (x ^^^ y) :: st) h P) : Ev E M pc ls (vI y :: vI x :: st) h P := by
  intro p e R s m args below meth c H locs cells slots lsA ad ad0 h0 hC hL hS
  exact lv_ixor hC.ex hC.cd hd (k p e R s m args below meth c H locs cells slots lsA ad ad0 h0 hC hL (lvS_i (lvS_2 (lvS_2 hS))))
theorem Ev_ishl {x y : Int32} (hd : decode (mB M) pc = .ok (.ishl, 1)) (k : Ev E M (pc + 1) ls (vI (x <<< (y &&& 31)) :: st) h P) : Ev E M pc ls (vI y :: vI x :: st) h P := by
  intro p e R s m args below meth c H locs cells slots lsA ad ad0 h0 hC hL hS
  exact lv_ishl hC.ex hC.cd hd (k p e R s m args below meth c H locs cells slots lsA ad ad0 h0 hC hL (lvS_i (lvS_2 (lvS_2 hS))))
theorem Ev_ishr {x y : Int32} (hd : decode (mB M) pc = .ok (.ishr, 1)) (k : Ev E M (pc + 1) ls (vI (x >>> (y &&& 31)) :: st) h P) : Ev E M pc ls (vI y :: vI x :: st) h P := by
  intro p e R s m args below meth c H locs cells slots lsA ad ad0 h0 hC hL hS
  exact lv_ishr hC.ex hC.cd hd (k p e R s m args below meth c H locs cells slots lsA ad ad0 h0 hC hL (lvS_i (lvS_2 (lvS_2 hS))))
theorem Ev_idiv {x y : Int32} (hd : decode (mB M) pc = .ok (.idiv, 1)) (hne : ¬ y = 0) (k : Ev E M (pc + 1) ls (vI (x / y) :: st) h P) : Ev E M pc ls (vI y :: vI x :: st) h P := by
  intro p e R s m args below meth c H locs cells slots lsA ad ad0 h0 hC hL hS
  exact lv_idiv hC.ex hC.cd hd hne (k p e R s m args below meth c H locs cells slots lsA ad ad0 h0 hC hL (lvS_i (lvS_2 (lvS_2 hS))))
theorem Ev_irem {x y : Int32} (hd : decode (mB M) pc = .ok (.irem, 1)) (hne : ¬ y = 0) (k : Ev E M (pc + 1) ls (vI (x - x / y * y) :: st) h P) : Ev E M pc ls (vI y :: vI x :: st) h P := by
  intro p e R s m args below meth c H locs cells slots lsA ad ad0 h0 hC hL hS
  exact lv_irem hC.ex hC.cd hd hne (k p e R s m args below meth c H locs cells slots lsA ad ad0 h0 hC hL (lvS_i (lvS_2 (lvS_2 hS))))
theorem Ev_i2l {x : Int32} (hd : decode (mB M) pc = .ok (.i2l, 1)) (k : Ev E M (pc + 1) ls (vL x.toInt64 :: st) h P) : Ev E M pc ls (vI x :: st) h P := by
  intro p e R s m args below meth c H locs cells slots lsA ad ad0 h0 hC hL hS
  exact lv_i2l hC.ex hC.cd hd rfl (k p e R s m args below meth c H locs cells slots lsA ad ad0 h0 hC hL (lvS_l (lvS_2 hS)))
theorem Ev_lcmp {x y : Int64} (hd : decode (mB M) pc = .ok (.lcmp, 1)) (k : Ev E M (pc + 1) ls (vI (lg_cmp x y) :: st) h P) : Ev E M pc ls (vL y :: vL x :: st) h P := by
  intro p e R s m args below meth c H locs cells slots lsA ad ad0 h0 hC hL hS
  exact W.lcmp hC.ex hC.cd hd (k p e R s m args below meth c H locs cells slots lsA ad ad0 h0 hC hL (lvS_i (lvS_2 (lvS_2 hS))))
def sg (v : ev_V) : Bool := match v with
  | .inr (.inr _) => false
  | _ => true
theorem cv_sg {ad : Nat → Nat → Nat} {v : ev_V} (q : sg v = true) : (cv ad v).category = 1 := by
  rcases v with (_ | ⟨k, i⟩) | (x | x)
  · rfl
  · show (if k = 4 then Value.ref i else Value.ref (ad k i)).category = 1
    by_cases h4 : k = 4
    · rw [if_pos h4]; rfl
    · rw [if_neg h4]; rfl
  · rfl
  · cases q
theorem Ev_dup {v : ev_V} (hd : decode (mB M) pc = .ok (.dup, 1)) (hv : sg v = true) (k : Ev E M (pc + 1) ls (v :: v :: st) h P) : Ev E M pc ls (v :: st) h P := by
  intro p e R s m args below meth c H locs cells slots lsA ad ad0 h0 hC hL hS
  exact lv_dup hC.ex hC.cd hd (cv_sg hv) (k p e R s m args below meth c H locs cells slots lsA ad ad0 h0 hC hL (lvS_c (lvS_1 hS) hS))
theorem Ev_pop {v : ev_V} (hd : decode (mB M) pc = .ok (.pop, 1)) (hv : sg v = true) (k : Ev E M (pc + 1) ls st h P) : Ev E M pc ls (v :: st) h P := by
  intro p e R s m args below meth c H locs cells slots lsA ad ad0 h0 hC hL hS
  exact lv_pop hC.ex hC.cd hd (cv_sg hv) (k p e R s m args below meth c H locs cells slots lsA ad ad0 h0 hC hL (lvS_2 hS))
theorem Ev_if_eq {x : Int32} {off : Int} {tgt : Nat} (hd : decode (mB M) pc = .ok (.ifCond .eq off, 3)) (ht : (pc : Int) + off = (tgt : Int)) (kt : x = 0 → Ev E M tgt ls st h P) (kf : ¬ x = 0 → Ev E M (pc + 3) ls st h P) : Ev E M pc ls (vI x :: st) h P := by
  intro p e R s m args below meth c H locs cells slots lsA ad ad0 h0 hC hL hS
  exact lv_if_eq hC.ex hC.cd hd ht (fun q => kt q p e R s m args below meth c H locs cells slots lsA ad ad0 h0 hC hL (lvS_2 hS)) (fun q => kf q p e R s m args below meth c H locs cells slots lsA ad ad0 h0 hC hL (lvS_2 hS))
theorem Ev_icmp_eq {x y : Int32} {off : Int} {tgt : Nat} (hd : decode (mB M) pc = .ok (.if_icmp .eq off, 3)) (ht : (pc : Int) + off = (tgt : Int)) (kt : x = y → Ev E M tgt ls st h P) (kf : ¬ x = y → Ev E M (pc + 3) ls st h P) : Ev E M pc ls (vI y :: vI x :: st) h P := by
  intro p e R s m args below meth c H locs cells slots lsA ad ad0 h0 hC hL hS
  exact lv_icmp_eq hC.ex hC.cd hd ht (fun q => kt q p e R s m args below meth c H locs cells slots lsA ad ad0 h0 hC hL (lvS_2 (lvS_2 hS))) (fun q => kf q p e R s m args below meth c H locs cells slots lsA ad ad0 h0 hC hL (lvS_2 (lvS_2 hS)))
theorem Ev_if_ne {x : Int32} {off : Int} {tgt : Nat} (hd : decode (mB M) pc = .ok (.ifCond .ne off, 3)) (ht : (pc : Int) + off = (tgt : Int)) (kt : ¬ x = 0 → Ev E M tgt ls st h P) (kf : x = 0 → Ev E M (pc + 3) ls st h P) : Ev E M pc ls (vI x :: st) h P := by
  intro p e R s m args below meth c H locs cells slots lsA ad ad0 h0 hC hL hS
  exact lv_if_ne hC.ex hC.cd hd ht (fun q => kt q p e R s m args below meth c H locs cells slots lsA ad ad0 h0 hC hL (lvS_2 hS)) (fun q => kf q p e R s m args below meth c H locs cells slots lsA ad ad0 h0 hC hL (lvS_2 hS))
theorem Ev_icmp_ne {x y : Int32} {off : Int} {tgt : Nat} (hd : decode (mB M) pc = .ok (.if_icmp .ne off, 3)) (ht : (pc : Int) + off = (tgt : Int)) (kt : ¬ x = y → Ev E M tgt ls st h P) (kf : x = y → Ev E M (pc + 3) ls st h P) : Ev E M pc ls (vI y :: vI x :: st) h P := by
  intro p e R s m args below meth c H locs cells slots lsA ad ad0 h0 hC hL hS
  exact lv_icmp_ne hC.ex hC.cd hd ht (fun q => kt q p e R s m args below meth c H locs cells slots lsA ad ad0 h0 hC hL (lvS_2 (lvS_2 hS))) (fun q => kf q p e R s m args below meth c H locs cells slots lsA ad ad0 h0 hC hL (lvS_2 (lvS_2 hS)))
theorem Ev_if_lt {x : Int32} {off : Int} {tgt : Nat} (hd : decode (mB M) pc = .ok (.ifCond .lt off, 3)) (ht : (pc : Int) + off = (tgt : Int)) (kt : x < 0 → Ev E M tgt ls st h P) (kf : ¬ x < 0 → Ev E M (pc + 3) ls st h P) : Ev E M pc ls (vI x :: st) h P := by
  intro p e R s m args below meth c H locs cells slots lsA ad ad0 h0 hC hL hS
  exact lv_if_lt hC.ex hC.cd hd ht (fun q => kt q p e R s m args below meth c H locs cells slots lsA ad ad0 h0 hC hL (lvS_2 hS)) (fun q => kf q p e R s m args below meth c H locs cells slots lsA ad ad0 h0 hC hL (lvS_2 hS))
theorem Ev_icmp_lt {x y : Int32} {off : Int} {tgt : Nat} (hd : decode (mB M) pc = .ok (.if_icmp .lt off, 3)) (ht : (pc : Int) + off = (tgt : Int)) (kt : x < y → Ev E M tgt ls st h P) (kf : ¬ x < y → Ev E M (pc + 3) ls st h P) : Ev E M pc ls (vI y :: vI x :: st) h P := by
  intro p e R s m args below meth c H locs cells slots lsA ad ad0 h0 hC hL hS
  exact lv_icmp_lt hC.ex hC.cd hd ht (fun q => kt q p e R s m args below meth c H locs cells slots lsA ad ad0 h0 hC hL (lvS_2 (lvS_2 hS))) (fun q => kf q p e R s m args below meth c H locs cells slots lsA ad ad0 h0 hC hL (lvS_2 (lvS_2 hS)))
theorem Ev_if_ge {x : Int32} {off : Int} {tgt : Nat} (hd : decode (mB M) pc = .ok (.ifCond .ge off, 3)) (ht : (pc : Int) + off = (tgt : Int)) (kt : 0 ≤ x → Ev E M tgt ls st h P) (kf : ¬ 0 ≤ x → Ev E M (pc + 3) ls st h P) : Ev E M pc ls (vI x :: st) h P := by
  intro p e R s m args below meth c H locs cells slots lsA ad ad0 h0 hC hL hS
  exact lv_if_ge hC.ex hC.cd hd ht (fun q => kt q p e R s m args below meth c H locs cells slots lsA ad ad0 h0 hC hL (lvS_2 hS)) (fun q => kf q p e R s m args below meth c H locs cells slots lsA ad ad0 h0 hC hL (lvS_2 hS))
theorem Ev_icmp_ge {x y : Int32} {off : Int} {tgt : Nat} (hd : decode (mB M) pc = .ok (.if_icmp .ge off, 3)) (ht : (pc : Int) + off = (tgt : Int)) (kt : y ≤ x → Ev E M tgt ls st h P) (kf : ¬ y ≤ x → Ev E M (pc + 3) ls st h P) : Ev E M pc ls (vI y :: vI x :: st) h P := by
  intro p e R s m args below meth c H locs cells slots lsA ad ad0 h0 hC hL hS
  exact lv_icmp_ge hC.ex hC.cd hd ht (fun q => kt q p e R s m args below meth c H locs cells slots lsA ad ad0 h0 hC hL (lvS_2 (lvS_2 hS))) (fun q => kf q p e R s m args below meth c H locs cells slots lsA ad ad0 h0 hC hL (lvS_2 (lvS_2 hS)))
theorem Ev_if_gt {x : Int32} {off : Int} {tgt : Nat} (hd : decode (mB M) pc = .ok (.ifCond .gt off, 3)) (ht : (pc : Int) + off = (tgt : Int)) (kt : 0 < x → Ev E M tgt ls st h P) (kf : ¬ 0 < x → Ev E M (pc + 3) ls st h P) : Ev E M pc ls (vI x :: st) h P := by
  intro p e R s m args below meth c H locs cells slots lsA ad ad0 h0 hC hL hS
  exact lv_if_gt hC.ex hC.cd hd ht (fun q => kt q p e R s m args below meth c H locs cells slots lsA ad ad0 h0 hC hL (lvS_2 hS)) (fun q => kf q p e R s m args below meth c H locs cells slots lsA ad ad0 h0 hC hL (lvS_2 hS))
theorem Ev_icmp_gt {x y : Int32} {off : Int} {tgt : Nat} (hd : decode (mB M) pc = .ok (.if_icmp .gt off, 3)) (ht : (pc : Int) + off = (tgt : Int)) (kt : y < x → Ev E M tgt ls st h P) (kf : ¬ y < x → Ev E M (pc + 3) ls st h P) : Ev E M pc ls (vI y :: vI x :: st) h P := by
  intro p e R s m args below meth c H locs cells slots lsA ad ad0 h0 hC hL hS
  exact lv_icmp_gt hC.ex hC.cd hd ht (fun q => kt q p e R s m args below meth c H locs cells slots lsA ad ad0 h0 hC hL (lvS_2 (lvS_2 hS))) (fun q => kf q p e R s m args below meth c H locs cells slots lsA ad ad0 h0 hC hL (lvS_2 (lvS_2 hS)))
theorem Ev_if_le {x : Int32} {off : Int} {tgt : Nat} (hd : decode (mB M) pc = .ok (.ifCond .le off, 3)) (ht : (pc : Int) + off = (tgt : Int)) (kt : x ≤ 0 → Ev E M tgt ls st h P) (kf : ¬ x ≤ 0 → Ev E M (pc + 3) ls st h P) : Ev E M pc ls (vI x :: st) h P := by
  intro p e R s m args below meth c H locs cells slots lsA ad ad0 h0 hC hL hS
  exact lv_if_le hC.ex hC.cd hd ht (fun q => kt q p e R s m args below meth c H locs cells slots lsA ad ad0 h0 hC hL (lvS_2 hS)) (fun q => kf q p e R s m args below meth c H locs cells slots lsA ad ad0 h0 hC hL (lvS_2 hS))
theorem Ev_icmp_le {x y : Int32} {off : Int} {tgt : Nat} (hd : decode (mB M) pc = .ok (.if_icmp .le off, 3)) (ht : (pc : Int) + off = (tgt : Int)) (kt : x ≤ y → Ev E M tgt ls st h P) (kf : ¬ x ≤ y → Ev E M (pc + 3) ls st h P) : Ev E M pc ls (vI y :: vI x :: st) h P := by
  intro p e R s m args below meth c H locs cells slots lsA ad ad0 h0 hC hL hS
  exact lv_icmp_le hC.ex hC.cd hd ht (fun q => kt q p e R s m args below meth c H locs cells slots lsA ad ad0 h0 hC hL (lvS_2 (lvS_2 hS))) (fun q => kf q p e R s m args below meth c H locs cells slots lsA ad ad0 h0 hC hL (lvS_2 (lvS_2 hS)))
theorem Ev_goto {off : Int} {tgt : Nat} (hd : decode (mB M) pc = .ok (.goto off, 3)) (ht : (pc : Int) + off = (tgt : Int)) (k : Ev E M tgt ls st h P) : Ev E M pc ls st h P := by
  intro p e R s m args below meth c H locs cells slots lsA ad ad0 h0 hC hL hS
  exact lv_goto hC.ex hC.cd hd ht (k p e R s m args below meth c H locs cells slots lsA ad ad0 h0 hC hL hS)
theorem Ev_tblOut {dflt lo hi : Int} {offs : Array Int} {len : Nat} {x : Int32} {tgt : Nat} (hd : decode (mB M) pc = .ok (.tableswitch dflt lo hi offs, len)) (hx : x.toInt < lo ∨ hi < x.toInt) (ht : (pc : Int) + dflt = (tgt : Int)) (k : Ev E M tgt ls st h P) : Ev E M pc ls (vI x :: st) h P := by
  intro p e R s m args below meth c H locs cells slots lsA ad ad0 h0 hC hL hS
  exact lv_tableOut hC.ex hC.cd hd hx ht (k p e R s m args below meth c H locs cells slots lsA ad ad0 h0 hC hL (lvS_2 hS))
theorem Ev_tblIn {dflt lo hi : Int} {offs : Array Int} {len : Nat} {x : Int32} {off : Int} {tgt : Nat} (hd : decode (mB M) pc = .ok (.tableswitch dflt lo hi offs, len)) (h1 : ¬ x.toInt < lo) (h2 : ¬ hi < x.toInt) (ho : offs[(x.toInt - lo).toNat]? = some off) (ht : (pc : Int) + off = (tgt : Int)) (k : Ev E M tgt ls st h P) : Ev E M pc ls (vI x :: st) h P := by
  intro p e R s m args below meth c H locs cells slots lsA ad ad0 h0 hC hL hS
  exact lv_tableIn hC.ex hC.cd hd h1 h2 ho ht (k p e R s m args below meth c H locs cells slots lsA ad ad0 h0 hC hL (lvS_2 hS))
theorem Ev_ireturn {x : Int32} (hd : decode (mB M) pc = .ok (.ireturn, 1)) {ty : FieldType} (hr : mR M = some ty) (hn : narrow ty (.int x) = .int x) (k : P (.inl (some (vI x))) h) : Ev E M pc ls [vI x] h P := by
  intro p e R s m args below meth c H locs cells slots lsA ad ad0 h0 hC hL hS
  have hlocks : meth.locks = false := hC.2.1.2.2.2.2.2.2.1
  have hr0 : meth.sig.returnType = mR M := hC.2.1.2.2.1
  refine W.mono (fun t q => ?_) (W.zret (Qc := fun _ _ o t => o = .returned (some (.int x)) ∧ t.heap = H) (free := fun z => eZ E ≤ z) hC.ex hC.cd (hr0.trans hr) hn (fun t ht _ => ⟨rfl, ht⟩) hC.2.2.2.2.2.2.1 hd hlocks)
  · obtain ⟨o, a1, a2, ⟨a3, a4⟩, L, ⟨-, b2, b3⟩, b4⟩ := q
    obtain ⟨-, -, hR, hz, hc1, hc2, -, hx⟩ := hC
    subst a3
    refine ⟨_, a1, a2, .inl (some (vI x)), h, ad, b2, ⟨L, ?_, b4⟩, by rw [a4]; exact hR, hx, ⟨rfl, trivial⟩, k⟩
    have e1 : t.heap.size - s.heap.size = cells := by rw [a4]; exact hc1.symm
    have e2 : 512 * cells = slots := by rw [hc2, hc1]
    rw [e1, e2]
    exact b3
theorem Ev_return (hd : decode (mB M) pc = .ok (.return_, 1)) (hr : mR M = none) (k : P (.inl none) h) : Ev E M pc ls [] h P := by
  intro p e R s m args below meth c H locs cells slots lsA ad ad0 h0 hC hL hS
  have hlocks : meth.locks = false := hC.2.1.2.2.2.2.2.2.1
  have hr0 : meth.sig.returnType = mR M := hC.2.1.2.2.1
  refine W.mono (fun t q => ?_) (W.vret (Qc := fun _ _ o t => o = .returned none ∧ t.heap = H) (free := fun z => eZ E ≤ z) hC.ex hC.cd (hr0.trans hr) (fun t ht _ => ⟨rfl, ht⟩) hC.2.2.2.2.2.2.1 hd hlocks)
  · obtain ⟨o, a1, a2, ⟨a3, a4⟩, L, ⟨-, b2, b3⟩, b4⟩ := q
    obtain ⟨-, -, hR, hz, hc1, hc2, -, hx⟩ := hC
    subst a3
    refine ⟨_, a1, a2, .inl none, h, ad, b2, ⟨L, ?_, b4⟩, by rw [a4]; exact hR, hx, rfl, k⟩
    have e1 : t.heap.size - s.heap.size = cells := by rw [a4]; exact hc1.symm
    have e2 : 512 * cells = slots := by rw [hc2, hc1]
    rw [e1, e2]
    exact b3
theorem Ev_areturn {a b : Nat} (hd : decode (mB M) pc = .ok (.areturn, 1)) {C : String} (hr : mR M = some (.object C)) (k : P (.inl (some (vR a b))) h) : Ev E M pc ls [vR a b] h P := by
  intro p e R s m args below meth c H locs cells slots lsA ad ad0 h0 hC hL hS
  have hlocks : meth.locks = false := hC.2.1.2.2.2.2.2.2.1
  have hr0 : meth.sig.returnType = mR M := hC.2.1.2.2.1
  have hv : cv ad (vR a b) = .null ∨ ∃ z, cv ad (vR a b) = .ref z := by
    refine Or.inr ?_
    show ∃ z, (if a = 4 then Value.ref b else Value.ref (ad a b)) = .ref z
    by_cases h4 : a = 4
    · exact ⟨b, by rw [if_pos h4]⟩
    · exact ⟨ad a b, by rw [if_neg h4]⟩
  refine W.mono (fun t q => ?_) (W.aret (v := cv ad (vR a b)) (rt := .object C) (Qc := fun _ _ o t => o = .returned (some (cv ad (vR a b))) ∧ t.heap = H) (free := fun z => eZ E ≤ z) hC.ex hC.cd (hr0.trans hr) (Or.inl ⟨C, rfl⟩) hv (fun t ht _ => ⟨rfl, ht⟩) hC.2.2.2.2.2.2.1 hd hlocks)
  · obtain ⟨o, a1, a2, ⟨a3, a4⟩, L, ⟨-, b2, b3⟩, b4⟩ := q
    have hS0 := lvS_1 hS
    obtain ⟨-, -, hR, hz, hc1, hc2, -, hx⟩ := hC
    subst a3
    refine ⟨_, a1, a2, .inl (some (vR a b)), h, ad, b2, ⟨L, ?_, b4⟩, by rw [a4]; exact hR, hx, ⟨rfl, hS0⟩, k⟩
    have e1 : t.heap.size - s.heap.size = cells := by rw [a4]; exact hc1.symm
    have e2 : 512 * cells = slots := by rw [hc2, hc1]
    rw [e1, e2]
    exact b3
end EvR
end
section
/-! rows that read and write the heap, and make cells -/
def vNm (ci : Nat) : String := cond (Nat.beq ci 0) "TypedBlood" (cond (Nat.beq ci 1) "TypedBlood$Unit" (cond (Nat.beq ci 2) "TypedBlood$Patient" (cond (Nat.beq ci 3) "TypedBlood$Ranking" "TypedBloodModel")))
def vT (ci : Nat) : u_T := cond (Nat.beq ci 0) T0 (cond (Nat.beq ci 1) T1 (cond (Nat.beq ci 2) T2 (cond (Nat.beq ci 3) T3 T4)))
theorem vC_at {ci : Nat} (q : ci < 5) : vC[ci]? = some (vNm ci, vT ci, nfl ci) := by
  rcases ev_five q with rfl | rfl | rfl | rfl | rfl <;> rfl
theorem vT_ty {ci : Nat} (q : ci < 5) : ∀ f, f < nfl ci → parseFieldDescriptor (vT ci f).2.2.1 = some (fty ci f) := by
  rcases ev_five q with rfl | rfl | rfl | rfl | rfl
  · exact T0_ty
  · exact T1_ty
  · exact T2_ty
  · exact T3_ty
  · exact T4_ty
theorem vT_nm {ci : Nat} (q : ci < 5) : ∀ a, a < nfl ci → ∀ b, b < nfl ci → a ≠ b → (vT ci a).2.1 ≠ (vT ci b).2.1 := by
  rcases ev_five q with rfl | rfl | rfl | rfl | rfl
  · exact T0_nm
  · exact T1_nm
  · exact T2_nm
  · exact T3_nm
  · exact T4_nm
theorem vT_dc {ci : Nat} (q : ci < 5) : ∀ f, f < nfl ci → (vT ci f).1 = vNm ci := by
  rcases ev_five q with rfl | rfl | rfl | rfl | rfl
  · exact T0_dc
  · exact T1_dc
  · exact T2_dc
  · exact T3_dc
  · exact T4_dc
theorem vT_in {ci : Nat} (q : ci < 5) : ∀ w ∈ u_ws (vNm ci) (vT ci) (nfl ci), w ∈ lw_tbl.filter goodWord := by
  have key : ∀ f, f < nfl ci → u_lay (vNm ci) (vT ci) f ∈ lw_tbl.filter goodWord := by
    rcases ev_five q with rfl | rfl | rfl | rfl | rfl
    · exact T0_in
    · exact T1_in
    · exact T2_in
    · exact T3_in
    · exact T4_in
  intro w hw
  obtain ⟨f, hf, rfl⟩ := List.mem_map.mp hw
  exact key f (List.mem_range.mp hf)
theorem nfl_le (ci : Nat) : nfl ci ≤ 26 := by
  unfold nfl
  cases Nat.beq ci 0 <;> cases Nat.beq ci 1 <;> cases Nat.beq ci 2 <;> cases Nat.beq ci 3 <;> decide
def fld (own : String) (idx ci f : Nat) : Prop := ci < 5 ∧ f < nfl ci ∧ wd (.fieldLink own idx (vNm ci) (vT ci f).2.1 (vT ci f).2.2.1)
def nwd (own : String) (idx ci : Nat) : Prop := ci < 5 ∧ wd (.classLink own idx (vNm ci)) ∧ wd (.instantiable (vNm ci) (nfl ci)) ∧ wd (.initialized (vNm ci))
section EvD
variable {E : ev_E} {M : ev_M} {p : Program} {R : Room} {s : State} {m : MethodId} {meth : Method} {c : Code} {H : Heap} {locs : List Loc} {cells slots : Nat} {ad ad0 : Nat → Nat → Nat} {h h0 : ev_H}
theorem ev_obj (hC : ev_C E M p R s m meth c H locs cells slots ad ad0 h h0) {k i : Nat} (hk : Nat.blt k 4 = true) (hl : lvV h (vR k i)) : k < 4 ∧ i < cnt h k ∧ cv ad (vR k i) = .ref (ad k i) ∧ eZ E ≤ ad k i ∧ ad k i < H.size ∧ cr E ad h k i H := by
  have hk4 : k < 4 := by simpa [Nat.blt_eq] using hk
  have hi : i < cnt h k := by
    rcases (show lvs h k i from hl) with z | ⟨z, -⟩ | ⟨-, z⟩
    · omega
    · omega
    · exact z
  obtain ⟨q1, q2, q3⟩ := hC.2.2.1.2.2.2.2.1 k i hk4 hi
  refine ⟨hk4, hi, ?_, q1, q2, q3⟩
  show (if k = 4 then Value.ref i else Value.ref (ad k i)) = _
  rw [if_neg (by omega)]
theorem ev_cls (hC : ev_C E M p R s m meth c H locs cells slots ad ad0 h h0) {ci : Nat} (q : ci < 5) : u_Kn s (vNm ci) (vT ci) (nfl ci) ((eD E).1 ci) ((eD E).2 ci) := hC.K.1 ci _ (vC_at q)
theorem ev_C.mk (hC : ev_C E M p R s m meth c H locs cells slots ad ad0 h h0) {H' : Heap} {locs' : List Loc} {ad' : Nat → Nat → Nat} {h' : ev_H} (hR : Rl E ad' h' H') (hz : s.heap.size ≤ H'.size) (hl : ∀ q ∈ locs', eZ E ≤ q.base) (hx : xt ad h ad' h') :
    ev_C E M p R s m meth c H' locs' (H'.size - s.heap.size) (512 * (H'.size - s.heap.size)) ad' ad0 h' h0 := ⟨hC.1, hC.2.1, hR, hz, rfl, rfl, hl, hC.2.2.2.2.2.2.2.tr hx⟩
theorem ev_locs (hC : ev_C E M p R s m meth c H locs cells slots ad ad0 h h0) {a i : Nat} (ha : eZ E ≤ a) : ∀ q ∈ locs ++ [⟨a, i⟩], eZ E ≤ q.base := by
  intro q hq
  rcases List.mem_append.mp hq with z | z
  · exact hC.2.2.2.2.2.2.1 q z
  · rw [List.mem_singleton.mp z]
    exact ha
theorem ev_room (hC : ev_C E M p R s m meth c H locs cells slots ad ad0 h h0) (hZ : cZ h < ZM) {N : Nat} (hN : N ≤ 512) : cells + 1 ≤ R.cells ∧ slots + N ≤ R.slots := by
  obtain ⟨-, ⟨-, -, -, -, -, -, -, -, -, -, i11, -, -, i14, i15⟩, ⟨r1, -⟩, z1, z2, z3, -⟩ := hC
  constructor
  · omega
  · omega
/-- a slot of an object is written -/
theorem ev_stored (hC : ev_C E M p R s m meth c H locs cells slots ad ad0 h h0) {k i ci f : Nat} (hk : Nat.blt k 4 = true) (hl : lvV h (vR k i)) (hs : shp k i = (0, ci)) {h' : ev_H} {v : ev_V} (hc : h'.2.2.2 = h.2.2.2)
    (hm : ∀ k' i' j, ¬ (k' = k ∧ i' = i) → gI h' k' i' j = gI h k' i' j ∧ gR h' k' i' j = gR h k' i' j ∧ gL h' k' i' j = gL h k' i' j) (hv : fv h' ci k i f = v) (ho : ∀ j, j ≠ f → fv h' ci k i j = fv h ci k i j) (hlv : lvV h v)
    {H' : Heap} (hz : H'.size = H.size) (hoq : ∀ q, q ≠ ad k i → H'[q]? = H[q]?) (hob : t_OB (ad k i) ((eD E).1 ci) (nfl ci) ((eD E).2 ci) H' (updV (fun f => cv ad (fv h ci k i f)) f (cv ad v))) : Rl E ad h' H' := by
  obtain ⟨k4, hi, -, q1, q2, q3⟩ := ev_obj hC hk hl
  have hx : xt ad h ad h' := xt_eq hc
  refine hC.2.2.1.st k4 hi hz hoq hc hm ⟨fun _ => ?_, fun z => ?_, fun z => ?_, fun z => ?_⟩
  · rw [hs]
    have c0 := (q3.1 (by rw [hs])).2
    rw [hs] at c0
    refine ⟨hob.to fun j _ => ?_, fun j hj => ?_⟩
    · by_cases e : j = f
      · subst e
        show (if j = j then _ else _) = _
        rw [if_pos rfl, hv]
      · show (if j = f then _ else _) = _
        rw [if_neg e, ho j e]
    · by_cases e : j = f
      · subst e
        rw [hv]
        exact (hx.V hlv).1
      · rw [ho j e]
        exact (hx.V (c0 j hj)).1
  · rw [hs] at z; cases z
  · rw [hs] at z; cases z
  · rw [hs] at z; exact absurd z (by simp)
end EvD
section EvR
variable {E : ev_E} {M : ev_M} {pc : Nat} {ls : List (Nat × ev_V)} {st : List ev_V} {h : ev_H} {P : Option ev_V ⊕ Nat → ev_H → Prop}
theorem Ev_get {k i ci f idx : Nat} {v : ev_V} (hd : decode (mB M) pc = .ok (.getfield idx, 3)) (hk : Nat.blt k 4 = true) (hs : shp k i = (0, ci)) (hf : fld (mY M).cls idx ci f) (hv : fv h ci k i f = v) (kk : Ev E M (pc + 3) ls (v :: st) h P) : Ev E M pc ls (vR k i :: st) h P := by
  intro p e R s m args below meth c H locs cells slots lsA ad ad0 h0 hC hL hS
  obtain ⟨k4, hi, hz, q1, q2, q3⟩ := ev_obj hC hk (lvS_1 hS)
  have c0 := q3.1 (by rw [hs])
  rw [hs] at c0
  obtain ⟨⟨cell, o1, o2, o3, o4⟩, o5⟩ := c0
  obtain ⟨hS', hfc, kC, hkC, hkind⟩ := ev_cls hC hf.1
  obtain ⟨cf, kf, fi, fd, hi', hsl⟩ := hS' f hf.2.1
  have hst := (u_facts hfc hkC (u_lays (hC.hts args) (vT_in hf.1) hf.2.1) hi').1
  rw [vT_dc hf.1 f hf.2.1] at hi'
  rw [List.map_cons, hz]
  have hlv : lvV h v := hv ▸ o5 f hf.2.1
  refine W.getf hC.ex hC.cd hC.own (hC.w hf.2.2 args) hi' hst o1 (by rw [o3]; exact fun z => by cases z) (v := cv ad v) ?_ rfl rfl hd (kk p e R s m args below meth c H locs cells slots lsA ad ad0 h0 hC hL (lvS_c hlv (lvS_2 hS)))
  rw [hsl, o4 f hf.2.1, ← hv]
theorem Ev_getI {k i ci f idx : Nat} (hd : decode (mB M) pc = .ok (.getfield idx, 3)) (hk : Nat.blt k 4 = true) (hs : shp k i = (0, ci)) (hi : isI ci f = true) (hf : fld (mY M).cls idx ci f) (kk : Ev E M (pc + 3) ls (vI (gI h k i f) :: st) h P) : Ev E M pc ls (vR k i :: st) h P :=
  Ev_get hd hk hs hf (by unfold fv; rw [hi]; rfl) kk
theorem Ev_getR {k i ci f idx : Nat} {v : ev_V} (hd : decode (mB M) pc = .ok (.getfield idx, 3)) (hk : Nat.blt k 4 = true) (hs : shp k i = (0, ci)) (hi : isI ci f = false) (hf : fld (mY M).cls idx ci f) (hv : gR h k i f = v) (kk : Ev E M (pc + 3) ls (v :: st) h P) : Ev E M pc ls (vR k i :: st) h P :=
  Ev_get hd hk hs hf (by unfold fv; rw [hi]; exact hv) kk
theorem fv_sI {h : ev_H} {ci k i f : Nat} {x : Int32} (hi : isI ci f = true) : fv (sI h k i f x) ci k i f = vI x := by
  unfold fv
  rw [hi]
  show vI (if k = k ∧ i = i ∧ f = f then x else _) = _
  rw [if_pos ⟨rfl, rfl, rfl⟩]
theorem fv_sIo {h : ev_H} {ci k i f j : Nat} {x : Int32} (hj : j ≠ f) : fv (sI h k i f x) ci k i j = fv h ci k i j := by
  unfold fv
  have e : gI (sI h k i f x) k i j = gI h k i j := by
    show (if k = k ∧ i = i ∧ j = f then x else _) = _
    rw [if_neg fun z => hj z.2.2]; rfl
  rw [e]; rfl
theorem fv_sR {h : ev_H} {ci k i f : Nat} {v : ev_V} (hi : isI ci f = false) : fv (sR h k i f v) ci k i f = v := by
  unfold fv
  rw [hi]
  show (if k = k ∧ i = i ∧ f = f then v else _) = _
  rw [if_pos ⟨rfl, rfl, rfl⟩]
theorem fv_sRo {h : ev_H} {ci k i f j : Nat} {v : ev_V} (hj : j ≠ f) : fv (sR h k i f v) ci k i j = fv h ci k i j := by
  unfold fv
  have e : gR (sR h k i f v) k i j = gR h k i j := by
    show (if k = k ∧ i = i ∧ j = f then v else _) = _
    rw [if_neg fun z => hj z.2.2]; rfl
  rw [e]; rfl
theorem sI_m {h : ev_H} {k i f : Nat} {x : Int32} : ∀ k' i' j, ¬ (k' = k ∧ i' = i) → gI (sI h k i f x) k' i' j = gI h k' i' j ∧ gR (sI h k i f x) k' i' j = gR h k' i' j ∧ gL (sI h k i f x) k' i' j = gL h k' i' j := by
  intro k' i' j q
  refine ⟨?_, rfl, rfl⟩
  show (if k' = k ∧ i' = i ∧ j = f then x else _) = _
  rw [if_neg fun z => q ⟨z.1, z.2.1⟩]; rfl
theorem sR_m {h : ev_H} {k i f : Nat} {v : ev_V} : ∀ k' i' j, ¬ (k' = k ∧ i' = i) → gI (sR h k i f v) k' i' j = gI h k' i' j ∧ gR (sR h k i f v) k' i' j = gR h k' i' j ∧ gL (sR h k i f v) k' i' j = gL h k' i' j := by
  intro k' i' j q
  refine ⟨rfl, ?_, rfl⟩
  show (if k' = k ∧ i' = i ∧ j = f then v else _) = _
  rw [if_neg fun z => q ⟨z.1, z.2.1⟩]; rfl
theorem sL_m {h : ev_H} {k i f : Nat} {v : Int64} : ∀ k' i' j, ¬ (k' = k ∧ i' = i) → gI (sL h k i f v) k' i' j = gI h k' i' j ∧ gR (sL h k i f v) k' i' j = gR h k' i' j ∧ gL (sL h k i f v) k' i' j = gL h k' i' j := by
  intro k' i' j q
  refine ⟨rfl, rfl, ?_⟩
  show (if k' = k ∧ i' = i ∧ j = f then v else _) = _
  rw [if_neg fun z => q ⟨z.1, z.2.1⟩]; rfl
/-- a field that is not final takes an int -/
theorem Ev_putI {k i ci f idx : Nat} {x : Int32} (hd : decode (mB M) pc = .ok (.putfield idx, 3)) (hk : Nat.blt k 4 = true) (hs : shp k i = (0, ci)) (hi : isI ci f = true) (hf : fld (mY M).cls idx ci f) (hfin : (vT ci f).2.2.2 = false) (kk : Ev E M (pc + 3) ls st (sI h k i f x) P) : Ev E M pc ls (vI x :: vR k i :: st) h P := by
  intro p e R s m args below meth c H locs cells slots lsA ad ad0 h0 hC hL hS
  have hlv := lvS_1 (lvS_2 hS)
  obtain ⟨k4, hi4, hz, q1, q2, q3⟩ := ev_obj hC hk hlv
  have c0 := q3.1 (by rw [hs])
  rw [hs] at c0
  obtain ⟨⟨cell, o1, o2, o3, o4⟩, o5⟩ := c0
  obtain ⟨hS', hfc, kC, hkC, hkind⟩ := ev_cls hC hf.1
  have hap := va_apart (D := eD E) (own := (mY M).cls) (hC.hts args) (vT_in hf.1) (fty ci) (vT_ty hf.1) (vT_nm hf.1) hC.K (vC_at hf.1)
  obtain ⟨cf, kf, fi, fd, hi', hsl⟩ := hS' f hf.2.1
  have hst := (u_facts hfc hkC (u_lays (hC.hts args) (vT_in hf.1) hf.2.1) hi').1
  have hlay := hC.hts args _ (vT_in hf.1 _ (u_in_lay hf.2.1))
  unfold u_lay at hlay
  rw [if_neg (by rw [hfin]; decide)] at hlay
  have hty : fty ci f = .int := by unfold fty; rw [hi]; rfl
  have h6 := u_store (v := .int x) hfc hkC hkind hlay hi' (by rw [vT_ty hf.1 f hf.2.1, hty]) rfl rfl
  rw [vT_dc hf.1 f hf.2.1] at hi'
  rw [List.map_cons, List.map_cons, hz]
  refine W.putK hC.ex hC.cd (f := fd) ⟨hC.own, hC.w hf.2.2 args, ⟨_, _, _, hi'⟩, hst⟩ (by rw [o2]; exact h6) o1 o3 (by rw [hsl]; exact k2_hasslot (o4 f hf.2.1)) rfl rfl hd fun H' e1 e2 e3 => ?_
  rw [hsl] at e1
  have hR := ev_stored hC hk hlv hs (h' := sI h k i f x) rfl sI_m (fv_sI hi) (fun j hj => fv_sIo hj) trivial e2 e3 ⟨_, e1, o2, o3, t_set o4 hap hf.2.1 (.int x)⟩
  have hx : xt ad h ad (sI h k i f x) := xt_eq rfl
  refine W.cs (by rw [e2]; exact hC.2.2.2.2.1) (by rw [e2]; exact hC.2.2.2.2.2.1) (kk p e R s m args below meth c H' _ _ _ lsA ad ad0 h0 (hC.mk hR (by rw [e2]; exact hC.2.2.2.1) (ev_locs hC q1) hx) (hL.mv hx) (hx.S (lvS_2 (lvS_2 hS))).1)
/-- a final field takes its value in a constructor -/
theorem ev_putF {k i ci f idx : Nat} {v : ev_V} {h' : ev_H} {ty : FieldType} (hd : decode (mB M) pc = .ok (.putfield idx, 3)) (hk : Nat.blt k 4 = true) (hs : shp k i = (0, ci)) (hf : fld (mY M).cls idx ci f) (hfin : (vT ci f).2.2.2 = true) (hin : (mY M).name = "<init>") (hcl : (mY M).cls = vNm ci)
    (hty : fty ci f = ty) (hnar : ∀ ad, narrow ty (cv ad v) = cv ad v) (hfit : ∀ ad, fits ty (cv ad v) = true) (hc : h'.2.2.2 = h.2.2.2)
    (hm : ∀ k' i' j, ¬ (k' = k ∧ i' = i) → gI h' k' i' j = gI h k' i' j ∧ gR h' k' i' j = gR h k' i' j ∧ gL h' k' i' j = gL h k' i' j) (hv : fv h' ci k i f = v) (ho : ∀ j, j ≠ f → fv h' ci k i j = fv h ci k i j)
    (kk : Ev E M (pc + 3) ls st h' P) : Ev E M pc ls (v :: vR k i :: st) h P := by
  intro p e R s m args below meth c H locs cells slots lsA ad ad0 h0 hC hL hS
  have hlv := lvS_1 (lvS_2 hS)
  obtain ⟨k4, hi4, hz, q1, q2, q3⟩ := ev_obj hC hk hlv
  have c0 := q3.1 (by rw [hs])
  rw [hs] at c0
  obtain ⟨⟨cell, o1, o2, o3, o4⟩, o5⟩ := c0
  obtain ⟨hS', hfc, kC, hkC, hkind⟩ := ev_cls hC hf.1
  have hap := va_apart (D := eD E) (own := (mY M).cls) (hC.hts args) (vT_in hf.1) (fty ci) (vT_ty hf.1) (vT_nm hf.1) hC.K (vC_at hf.1)
  obtain ⟨cf, kf, fi, fd, hi', hsl⟩ := hS' f hf.2.1
  have hst := (u_facts hfc hkC (u_lays (hC.hts args) (vT_in hf.1) hf.2.1) hi').1
  have hlay := hC.hts args _ (vT_in hf.1 _ (u_in_lay hf.2.1))
  unfold u_lay at hlay
  rw [if_pos hfin] at hlay
  have hcf : m.cls = cf := by
    obtain ⟨_, _, c', _, _, _, -, -, hf', -, -, -, hown2, -⟩ := Cond.laysFinal_spec hlay
    have e1 : c' = cf := by have := hi'.symm.trans hf'; simp at this; exact this.1.symm
    rw [vT_dc hf.1 f hf.2.1, ← hcl] at hown2
    rw [← e1]; exact Option.some.inj (hC.own.symm.trans hown2)
  have h6 := u_fits (v := cv ad v) hfc hkC hkind (Or.inr hlay) hi' (by rw [vT_ty hf.1 f hf.2.1, hty]) (hnar ad) (hfit ad)
  rw [vT_dc hf.1 f hf.2.1] at hi'
  rw [List.map_cons, List.map_cons, hz]
  refine W.putFinK hC.ex hC.cd hC.own (hC.w hf.2.2 args) hi' hst hcf (hC.2.1.2.2.2.2.2.1.trans hin) (by rw [o2]; exact h6) o1 o3 (by rw [hsl]; exact k2_hasslot (o4 f hf.2.1)) rfl rfl hd fun H' e1 e2 e3 => ?_
  rw [hsl] at e1
  have hR := ev_stored hC hk hlv hs (h' := h') hc hm hv ho (lvS_1 hS) e2 e3 ⟨_, e1, o2, o3, t_set o4 hap hf.2.1 (cv ad v)⟩
  have hx : xt ad h ad h' := xt_eq hc
  refine W.cs (by rw [e2]; exact hC.2.2.2.2.1) (by rw [e2]; exact hC.2.2.2.2.2.1) (kk p e R s m args below meth c H' _ _ _ lsA ad ad0 h0 (hC.mk hR (by rw [e2]; exact hC.2.2.2.1) (ev_locs hC q1) hx) (hL.mv hx) (hx.S (lvS_2 (lvS_2 hS))).1)
theorem Ev_putIF {k i ci f idx : Nat} {x : Int32} (hd : decode (mB M) pc = .ok (.putfield idx, 3)) (hk : Nat.blt k 4 = true) (hs : shp k i = (0, ci)) (hi : isI ci f = true) (hf : fld (mY M).cls idx ci f) (hfin : (vT ci f).2.2.2 = true) (hin : (mY M).name = "<init>") (hcl : (mY M).cls = vNm ci) (kk : Ev E M (pc + 3) ls st (sI h k i f x) P) : Ev E M pc ls (vI x :: vR k i :: st) h P :=
  ev_putF (ty := .int) (h' := sI h k i f x) hd hk hs hf hfin hin hcl (by unfold fty; rw [hi]; rfl) (fun _ => rfl) (fun _ => rfl) rfl sI_m (fv_sI hi) (fun j hj => fv_sIo hj) kk
theorem cv_ref {ad : Nat → Nat → Nat} (a b : Nat) : ∃ z, cv ad (vR a b) = .ref z := by
  show ∃ z, (if a = 4 then Value.ref b else Value.ref (ad a b)) = .ref z
  by_cases h4 : a = 4
  · exact ⟨b, by rw [if_pos h4]⟩
  · exact ⟨ad a b, by rw [if_neg h4]⟩
theorem Ev_putRF {k i ci f idx a b : Nat} (hd : decode (mB M) pc = .ok (.putfield idx, 3)) (hk : Nat.blt k 4 = true) (hs : shp k i = (0, ci)) (hi : isI ci f = false) (hf : fld (mY M).cls idx ci f) (hfin : (vT ci f).2.2.2 = true) (hin : (mY M).name = "<init>") (hcl : (mY M).cls = vNm ci) (hrt : (fty ci f).isReference = true) (kk : Ev E M (pc + 3) ls st (sR h k i f (vR a b)) P) : Ev E M pc ls (vR a b :: vR k i :: st) h P := by
  refine ev_putF (ty := fty ci f) (h' := sR h k i f (vR a b)) hd hk hs hf hfin hin hcl rfl (fun ad => ?_) (fun ad => ?_) rfl sR_m (fv_sR hi) (fun j hj => fv_sRo hj) kk
  · obtain ⟨z, hz⟩ := cv_ref (ad := ad) a b
    rw [hz]
    cases hq : fty ci f <;> first | rfl | (rw [hq] at hrt; cases hrt)
  · obtain ⟨z, hz⟩ := cv_ref (ad := ad) a b
    rw [hz]
    cases hq : fty ci f <;> first | rfl | (rw [hq] at hrt; cases hrt)
/-- an int array's place -/
theorem Ev_iald {k i n : Nat} {x : Int32} (hd : decode (mB M) pc = .ok (.iaload, 1)) (hk : Nat.blt k 4 = true) (hs : shp k i = (1, n)) (h1 : ¬ x < 0) (h2 : x.toNatClampNeg < n) (kk : Ev E M (pc + 1) ls (vI (gI h k i x.toNatClampNeg) :: st) h P) : Ev E M pc ls (vI x :: vR k i :: st) h P := by
  intro p e R s m args below meth c H locs cells slots lsA ad ad0 h0 hC hL hS
  obtain ⟨k4, hi4, hz, q1, q2, q3⟩ := ev_obj hC hk (lvS_1 (lvS_2 hS))
  have c0 := q3.2.1 (by rw [hs])
  rw [hs] at c0
  rw [List.map_cons, List.map_cons, hz]
  refine W.iald hC.ex hC.cd (v := .int (gI h k i x.toNatClampNeg)) c0 ((hC.K.2 0 _ rfl).1 n _) (fun z => by cases z) ?_ (arrV_read _ _ h2) rfl rfl hd (kk p e R s m args below meth c H locs cells slots lsA ad ad0 h0 hC hL (lvS_i (lvS_2 (lvS_2 hS))))
  rw [arrV_size]
  rintro (z | z)
  · exact h1 z
  · exact absurd h2 (Nat.not_lt.mpr z)
theorem Ev_iast {k i n : Nat} {x v : Int32} (hd : decode (mB M) pc = .ok (.iastore, 1)) (hk : Nat.blt k 4 = true) (hs : shp k i = (1, n)) (h1 : ¬ x < 0) (h2 : x.toNatClampNeg < n) (kk : Ev E M (pc + 1) ls st (sI h k i x.toNatClampNeg v) P) : Ev E M pc ls (vI v :: vI x :: vR k i :: st) h P := by
  intro p e R s m args below meth c H locs cells slots lsA ad ad0 h0 hC hL hS
  have hlv := lvS_1 (lvS_2 (lvS_2 hS))
  obtain ⟨k4, hi4, hz, q1, q2, q3⟩ := ev_obj hC hk hlv
  have c0 := q3.2.1 (by rw [hs])
  rw [hs] at c0
  rw [List.map_cons, List.map_cons, List.map_cons, hz]
  refine W.iast hC.ex hC.cd c0 ((hC.K.2 0 _ rfl).1 n _) (fun z => by cases z) ?_ rfl rfl hd fun H' e1 e2 e3 => ?_
  · rw [arrV_size]
    rintro (z | z)
    · exact h1 z
    · exact absurd h2 (Nat.not_lt.mpr z)
  · have hx : xt ad h ad (sI h k i x.toNatClampNeg v) := xt_eq rfl
    have hR : Rl E ad (sI h k i x.toNatClampNeg v) H' := by
      refine hC.2.2.1.st k4 hi4 e2 e3 rfl sI_m ⟨fun z => ?_, fun _ => ?_, fun z => ?_, fun z => ?_⟩
      · rw [hs] at z; cases z
      · rw [hs, e1, arrV_store]
        refine congrArg some (arrV_congr fun j _ => ?_)
        show (if j = x.toNatClampNeg then Value.int v else _) = Value.int (if k = k ∧ i = i ∧ j = x.toNatClampNeg then v else _)
        by_cases ej : j = x.toNatClampNeg
        · rw [if_pos ej, if_pos ⟨rfl, rfl, ej⟩]
        · rw [if_neg ej, if_neg fun z => ej z.2.2]; rfl
      · rw [hs] at z; cases z
      · rw [hs] at z; exact absurd z (by simp)
    refine W.cs (by rw [e2]; exact hC.2.2.2.2.1) (by rw [e2]; exact hC.2.2.2.2.2.1) (kk p e R s m args below meth c H' _ _ _ lsA ad ad0 h0 (hC.mk hR (by rw [e2]; exact hC.2.2.2.1) (ev_locs hC q1) hx) (hL.mv hx) (hx.S (lvS_2 (lvS_2 (lvS_2 hS)))).1)
theorem Ev_lald {k i n : Nat} {x : Int32} (hd : decode (mB M) pc = .ok (.laload, 1)) (hk : Nat.blt k 4 = true) (hs : shp k i = (2, n)) (h1 : ¬ x < 0) (h2 : x.toNatClampNeg < n) (kk : Ev E M (pc + 1) ls (vL (gL h k i x.toNatClampNeg) :: st) h P) : Ev E M pc ls (vI x :: vR k i :: st) h P := by
  intro p e R s m args below meth c H locs cells slots lsA ad ad0 h0 hC hL hS
  obtain ⟨k4, hi4, hz, q1, q2, q3⟩ := ev_obj hC hk (lvS_1 (lvS_2 hS))
  have c0 := q3.2.2.1 (by rw [hs])
  rw [hs] at c0
  rw [List.map_cons, List.map_cons, hz]
  refine W.lald hC.ex hC.cd (v := .long (gL h k i x.toNatClampNeg)) c0 ((hC.K.2 1 _ rfl).1 n _) (fun z => by cases z) ?_ (arrV_read _ _ h2) rfl rfl hd (kk p e R s m args below meth c H locs cells slots lsA ad ad0 h0 hC hL (lvS_l (lvS_2 (lvS_2 hS))))
  rw [arrV_size]
  rintro (z | z)
  · exact h1 z
  · exact absurd h2 (Nat.not_lt.mpr z)
theorem Ev_last {k i n : Nat} {x : Int32} {v : Int64} (hd : decode (mB M) pc = .ok (.lastore, 1)) (hk : Nat.blt k 4 = true) (hs : shp k i = (2, n)) (h1 : ¬ x < 0) (h2 : x.toNatClampNeg < n) (kk : Ev E M (pc + 1) ls st (sL h k i x.toNatClampNeg v) P) : Ev E M pc ls (vL v :: vI x :: vR k i :: st) h P := by
  intro p e R s m args below meth c H locs cells slots lsA ad ad0 h0 hC hL hS
  have hlv := lvS_1 (lvS_2 (lvS_2 hS))
  obtain ⟨k4, hi4, hz, q1, q2, q3⟩ := ev_obj hC hk hlv
  have c0 := q3.2.2.1 (by rw [hs])
  rw [hs] at c0
  rw [List.map_cons, List.map_cons, List.map_cons, hz]
  refine W.last hC.ex hC.cd c0 ((hC.K.2 1 _ rfl).1 n _) (fun z => by cases z) ?_ rfl rfl hd fun H' e1 e2 e3 => ?_
  · rw [arrV_size]
    rintro (z | z)
    · exact h1 z
    · exact absurd h2 (Nat.not_lt.mpr z)
  · have hx : xt ad h ad (sL h k i x.toNatClampNeg v) := xt_eq rfl
    have hR : Rl E ad (sL h k i x.toNatClampNeg v) H' := by
      refine hC.2.2.1.st k4 hi4 e2 e3 rfl sL_m ⟨fun z => ?_, fun z => ?_, fun _ => ?_, fun z => ?_⟩
      · rw [hs] at z; cases z
      · rw [hs] at z; cases z
      · rw [hs, e1, arrV_store]
        refine congrArg some (arrV_congr fun j _ => ?_)
        show (if j = x.toNatClampNeg then Value.long v else _) = Value.long (if k = k ∧ i = i ∧ j = x.toNatClampNeg then v else _)
        by_cases ej : j = x.toNatClampNeg
        · rw [if_pos ej, if_pos ⟨rfl, rfl, ej⟩]
        · rw [if_neg ej, if_neg fun z => ej z.2.2]; rfl
      · rw [hs] at z; exact absurd z (by simp)
    refine W.cs (by rw [e2]; exact hC.2.2.2.2.1) (by rw [e2]; exact hC.2.2.2.2.2.1) (kk p e R s m args below meth c H' _ _ _ lsA ad ad0 h0 (hC.mk hR (by rw [e2]; exact hC.2.2.2.1) (ev_locs hC q1) hx) (hL.mv hx) (hx.S (lvS_2 (lvS_2 (lvS_2 hS)))).1)
/-- an array of Units (t = 3) or Patients (t = 4) -/
def aC (t : Nat) : String := cond (Nat.beq t 3) "TypedBlood$Unit" "TypedBlood$Patient"
theorem Ev_aald {k i t n : Nat} {x : Int32} {v : ev_V} (hd : decode (mB M) pc = .ok (.aaload, 1)) (hk : Nat.blt k 4 = true) (hs : shp k i = (t, n)) (ht : t = 3 ∨ t = 4) (h1 : ¬ x < 0) (h2 : x.toNatClampNeg < n) (hv : gR h k i x.toNatClampNeg = v) (kk : Ev E M (pc + 1) ls (v :: st) h P) : Ev E M pc ls (vI x :: vR k i :: st) h P := by
  intro p e R s m args below meth c H locs cells slots lsA ad ad0 h0 hC hL hS
  obtain ⟨k4, hi4, hz, q1, q2, q3⟩ := ev_obj hC hk (lvS_1 (lvS_2 hS))
  have c0 := q3.2.2.2 (by rw [hs]; rcases ht with rfl | rfl <;> simp)
  rw [hs] at c0
  obtain ⟨c0, c1⟩ := c0
  have hA : s.isArrayOf (arrV (eC E (t - 1)) n (fun j => cv ad (gR h k i j))) (.object (aC t)) := by
    rcases ht with rfl | rfl
    · exact (hC.K.2 2 _ rfl).1 n _
    · exact (hC.K.2 3 _ rfl).1 n _
  rw [List.map_cons, List.map_cons, hz]
  have hlv : lvV h v := hv ▸ c1 _ h2
  refine W.aald hC.ex hC.cd (v := cv ad v) c0 hA rfl (fun z => by cases z) ?_ (by rw [← hv]; exact arrV_read _ _ h2) rfl rfl hd (kk p e R s m args below meth c H locs cells slots lsA ad ad0 h0 hC hL (lvS_c hlv (lvS_2 (lvS_2 hS))))
  rw [arrV_size]
  rintro (z | z)
  · exact h1 z
  · exact absurd h2 (Nat.not_lt.mpr z)
theorem Ev_aast {k i t n a b : Nat} {x : Int32} (hd : decode (mB M) pc = .ok (.aastore, 1)) (hk : Nat.blt k 4 = true) (hs : shp k i = (t, n)) (ht : t = 3 ∨ t = 4) (ha : Nat.blt a 4 = true) (hsa : shp a b = (0, t - 2)) (h1 : ¬ x < 0) (h2 : x.toNatClampNeg < n) (kk : Ev E M (pc + 1) ls st (sR h k i x.toNatClampNeg (vR a b)) P) : Ev E M pc ls (vR a b :: vI x :: vR k i :: st) h P := by
  intro p e R s m args below meth c H locs cells slots lsA ad ad0 h0 hC hL hS
  have hlv := lvS_1 (lvS_2 (lvS_2 hS))
  have hlb := lvS_1 hS
  obtain ⟨k4, hi4, hz, q1, q2, q3⟩ := ev_obj hC hk hlv
  obtain ⟨-, -, hzb, -, -, p3⟩ := ev_obj hC ha hlb
  have c0 := q3.2.2.2 (by rw [hs]; rcases ht with rfl | rfl <;> simp)
  rw [hs] at c0
  obtain ⟨c0, c1⟩ := c0
  have d0 := p3.1 (by rw [hsa])
  rw [hsa] at d0
  obtain ⟨⟨cellV, g1, g2, g3, -⟩, -⟩ := d0
  have hcls : ClassAt s (aC t) ((eD E).1 (t - 2)) := by
    rcases ht with rfl | rfl
    · exact (ev_cls hC (ci := 1) (by decide)).2
    · exact (ev_cls hC (ci := 2) (by decide)).2
  have hRA : va_RA s (eC E (t - 1)) (.object (aC t)) := by
    rcases ht with rfl | rfl
    · exact (hC.K.2 2 _ rfl).2
    · exact (hC.K.2 3 _ rfl).2
  obtain ⟨kA, comp, k1, k2, k3, -⟩ := hRA
  have hcomp : comp = (eD E).1 (t - 2) := Option.some.inj (k3.symm.trans hcls.1)
  subst hcomp
  obtain ⟨kC, hkC, -⟩ := hcls.2
  rw [List.map_cons, List.map_cons, List.map_cons, hz, hzb]
  refine W.aast hC.ex hC.cd c0 (fun q z => by cases z) (fun z => by cases z) k1 k2 rfl hkC ⟨h1, by rw [arrV_size]; exact h2⟩ g1 (fun q z => by rw [g3] at z; cases z) (by rw [g2]; exact hkC) (by rw [g2]; exact va_assign hcls) rfl rfl hd fun H' e1 e2 e3 => ?_
  have hx : xt ad h ad (sR h k i x.toNatClampNeg (vR a b)) := xt_eq rfl
  have hR : Rl E ad (sR h k i x.toNatClampNeg (vR a b)) H' := by
    refine hC.2.2.1.st k4 hi4 e2 e3 rfl sR_m ⟨fun z => ?_, fun z => ?_, fun z => ?_, fun _ => ⟨?_, fun j hj => ?_⟩⟩
    · rw [hs] at z; rcases ht with rfl | rfl <;> cases z
    · rw [hs] at z; rcases ht with rfl | rfl <;> cases z
    · rw [hs] at z; rcases ht with rfl | rfl <;> cases z
    · rw [hs, e1, arrV_store]
      refine congrArg some (arrV_congr fun j _ => ?_)
      show (if j = x.toNatClampNeg then Value.ref (ad a b) else _) = cv ad (if k = k ∧ i = i ∧ j = x.toNatClampNeg then vR a b else _)
      by_cases ej : j = x.toNatClampNeg
      · rw [if_pos ej, if_pos ⟨rfl, rfl, ej⟩, hzb]
      · rw [if_neg ej, if_neg fun z => ej z.2.2]; rfl
    · rw [hs] at hj
      show lvV _ (if k = k ∧ i = i ∧ j = x.toNatClampNeg then vR a b else _)
      by_cases ej : j = x.toNatClampNeg
      · rw [if_pos ⟨rfl, rfl, ej⟩]
        exact (hx.V hlb).1
      · rw [if_neg fun z => ej z.2.2]
        exact (hx.V (c1 j hj)).1
  refine W.cs (by rw [e2]; exact hC.2.2.2.2.1) (by rw [e2]; exact hC.2.2.2.2.2.1) (kk p e R s m args below meth c H' _ _ _ lsA ad ad0 h0 (hC.mk hR (by rw [e2]; exact hC.2.2.2.1) (ev_locs hC q1) hx) (hL.mv hx) (hx.S (lvS_2 (lvS_2 (lvS_2 hS)))).1)
theorem Ev_alen {k i n : Nat} (hd : decode (mB M) pc = .ok (.arraylength, 1)) (hk : Nat.blt k 4 = true) (hs : shp k i = (1, n)) (kk : Ev E M (pc + 1) ls (vI (Int32.ofNat n) :: st) h P) : Ev E M pc ls (vR k i :: st) h P := by
  intro p e R s m args below meth c H locs cells slots lsA ad ad0 h0 hC hL hS
  obtain ⟨k4, hi4, hz, q1, q2, q3⟩ := ev_obj hC hk (lvS_1 hS)
  have c0 := q3.2.1 (by rw [hs])
  rw [hs] at c0
  rw [List.map_cons, hz]
  exact W.alen (n := Int32.ofNat n) hC.ex hC.cd c0 ((hC.K.2 0 _ rfl).1 n _) (by rw [arrV_size]) rfl rfl hd (kk p e R s m args below meth c H locs cells slots lsA ad ad0 h0 hC hL (lvS_i (lvS_2 hS)))
/-- the old arrays: read alone -/
theorem ev_old {p : Program} {R : Room} {s : State} {m : MethodId} {meth : Method} {c : Code} {H : Heap} {locs : List Loc} {cells slots : Nat} {ad ad0 : Nat → Nat → Nat} {h0 : ev_H} (hC : ev_C E M p R s m meth c H locs cells slots ad ad0 h h0) {i : Nat} (hi : i < 3) : cv ad (vR 5 i) = .ref (eO E i) ∧ va_X (eO E i) (eN E i) (eX E i) s H := by
  obtain ⟨h1, h2⟩ := hC.1.2.2.2.1 i hi
  refine ⟨?_, (va_X.moved hC.wm.alike h2).kept (hC.2.2.1.2.2.1 _ h1)⟩
  show Value.ref (ad 5 i) = _
  rw [hC.2.2.1.2.2.2.1 i hi]
theorem Ev_ialdO {i : Nat} {x : Int32} (hd : decode (mB M) pc = .ok (.iaload, 1)) (hi : Nat.blt i 3 = true) (h1 : ¬ x < 0) (h2 : x.toNatClampNeg < eN E i) (kk : Ev E M (pc + 1) ls (vI (eX E i x.toNatClampNeg) :: st) h P) : Ev E M pc ls (vI x :: vR 5 i :: st) h P := by
  intro p e R s m args below meth c H locs cells slots lsA ad ad0 h0 hC hL hS
  obtain ⟨hz, scr, g1, g2, g3, g4, g5⟩ := ev_old hC (i := i) (by simpa [Nat.blt_eq] using hi)
  rw [List.map_cons, List.map_cons, hz]
  refine W.iald hC.ex hC.cd (v := .int (eX E i x.toNatClampNeg)) g1 g2 g3 ?_ (g5 _ h2) rfl rfl hd (kk p e R s m args below meth c H locs cells slots lsA ad ad0 h0 hC hL (lvS_i (lvS_2 (lvS_2 hS))))
  rw [g4]
  rintro (z | z)
  · exact h1 z
  · exact absurd h2 (Nat.not_lt.mpr z)
theorem Ev_alenO {i : Nat} (hd : decode (mB M) pc = .ok (.arraylength, 1)) (hi : Nat.blt i 3 = true) (kk : Ev E M (pc + 1) ls (vI (Int32.ofNat (eN E i)) :: st) h P) : Ev E M pc ls (vR 5 i :: st) h P := by
  intro p e R s m args below meth c H locs cells slots lsA ad ad0 h0 hC hL hS
  obtain ⟨hz, scr, g1, g2, g3, g4, g5⟩ := ev_old hC (i := i) (by simpa [Nat.blt_eq] using hi)
  rw [List.map_cons, hz]
  exact W.alen (n := Int32.ofNat (eN E i)) hC.ex hC.cd g1 g2 (by rw [g4]) rfl rfl hd (kk p e R s m args below meth c H locs cells slots lsA ad ad0 h0 hC hL (lvS_i (lvS_2 hS)))
/-- the two static arrays -/
theorem Ev_gets {i idx : Nat} (hd : decode (mB M) pc = .ok (.getstatic idx, 3)) (hi : Nat.blt i 2 = true) (hw : wd (.fieldLink (mY M).cls idx "TypedBlood" (cond (Nat.beq i 0) "ADDED_MARK" "PRODUCT_LIMIT") "[I")) (kk : Ev E M (pc + 3) ls (vR 5 (i + 1) :: st) h P) : Ev E M pc ls st h P := by
  intro p e R s m args below meth c H locs cells slots lsA ad ad0 h0 hC hL hS
  have hi2 : i < 2 := by simpa [Nat.blt_eq] using hi
  have hz := (ev_old hC (i := i + 1) (by omega)).1
  have hZ := hC.1.2.2.2.2.1 i hi2
  have hZ' : va_Z "TypedBlood" (cond (Nat.beq i 0) "ADDED_MARK" "PRODUCT_LIMIT") "[I" (.ref (eO E (i + 1))) (fun q => eZ E ≤ q) s s.heap := va_Z.moved hC.wm.alike (hZ.kept fun a ha hA => hC.2.1.2.2.2.2.2.2.2.2.2.1 a (Nat.not_le.mp hA))
  have k' := kk p e R s m args below meth c H locs cells slots lsA ad ad0 h0 hC hL (lvS_c (Or.inr (Or.inl ⟨rfl, by omega⟩)) hS)
  rw [List.map_cons, hz] at k'
  exact va_gets hC.ex hC.cd hZ' hC.old hC.own (hC.w hw args) (fun _ z => z) hd k'
end EvR
end
section
/-! rows that make cells -/
section EvN
variable {E : ev_E} {M : ev_M} {pc : Nat} {ls : List (Nat × ev_V)} {st : List ev_V} {h : ev_H} {P : Option ev_V ⊕ Nat → ev_H → Prop}
theorem adN_at {ad : Nat → Nat → Nat} {k i a : Nat} : adN ad k i a k i = a := by
  unfold adN; rw [if_pos ⟨rfl, rfl⟩]
theorem gI_nw {h : ev_H} {k j : Nat} : gI (nw h k) k (cnt h k) j = 0 := by
  show (if k = k ∧ cnt h k = cnt h k then (0 : Int32) else _) = 0
  rw [if_pos ⟨rfl, rfl⟩]
theorem gR_nw {h : ev_H} {k j : Nat} : gR (nw h k) k (cnt h k) j = vN := by
  show (if k = k ∧ cnt h k = cnt h k then vN else _) = vN
  rw [if_pos ⟨rfl, rfl⟩]
theorem gL_nw {h : ev_H} {k j : Nat} : gL (nw h k) k (cnt h k) j = 0 := by
  show (if k = k ∧ cnt h k = cnt h k then (0 : Int64) else _) = 0
  rw [if_pos ⟨rfl, rfl⟩]
theorem fty_dv {ci f : Nat} {ad : Nat → Nat → Nat} {h : ev_H} {k : Nat} : defaultValue (fty ci f) = cv ad (fv (nw h k) ci k (cnt h k) f) ∧ lvV (nw h k) (fv (nw h k) ci k (cnt h k) f) := by
  unfold fv
  rw [gI_nw, gR_nw]
  cases hi : isI ci f
  · refine ⟨?_, trivial⟩
    unfold fty
    rw [hi]
    cases Nat.beq ci 0 <;> cases Nat.beq f 0 <;> cases Nat.beq f 1 <;> rfl
  · refine ⟨?_, trivial⟩
    unfold fty
    rw [hi]
    rfl
theorem ev_live {h : ev_H} {k : Nat} (hk : k < 4) : lvV (nw h k) (vR k (cnt h k)) := by
  refine Or.inr (Or.inr ⟨hk, ?_⟩)
  rw [cnt_nw h k k hk hk, if_pos rfl]
  omega
theorem ev_made {p : Program} {e : Env} {R : Room} {s : State} {m : MethodId} {args : Array Value} {below : List Frame} {meth : Method} {c : Code} {H H1 : Heap} {locs : List Loc} {cells slots : Nat} {lsA : Array Slot} {ad ad0 : Nat → Nat → Nat} {h0 : ev_H} {k pc' N : Nat}
    (hC : ev_C E M p R s m meth c H locs cells slots ad ad0 h h0) (hL : ev_LR ad h (mL M) ls lsA) (hS : lvS h st) (hk : k < 4) (hN : N ≤ 512) (hR : Rl E (adN ad k (cnt h k) H.size) (nw h k) H1) (z1 : H1.size = H.size + 1) (kk : Ev E M pc' ls (vR k (cnt h k) :: st) (nw h k) P) :
    W p (eL E) e R s m args below meth c H1 locs (cells + 1) (slots + N) (ev_QE E s below ad0 h0 P) (F0 m pc' lsA (.ref H.size :: st.map (cv ad))) := by
  have hx : xt ad h (adN ad k (cnt h k) H.size) (nw h k) := xt_nw hk
  have hz := hC.2.2.2.1
  have hc1 := hC.2.2.2.2.1
  have hc2 := hC.2.2.2.2.2.1
  have k' := kk p e R s m args below meth c H1 locs _ _ lsA (adN ad k (cnt h k) H.size) ad0 h0 (hC.mk hR (by omega) hC.2.2.2.2.2.2.1 hx) (hL.mv hx) (lvS_c (ev_live hk) (hx.S hS).1)
  have e1 : cv (adN ad k (cnt h k) H.size) (vR k (cnt h k)) = .ref H.size := by
    show (if k = 4 then _ else Value.ref (adN ad k (cnt h k) H.size k (cnt h k))) = _
    rw [if_neg (by omega), adN_at]
  rw [List.map_cons, e1, (hx.S hS).2] at k'
  exact W.widen (by omega) (by omega) k'
theorem Ev_new {k i ci idx : Nat} (hd : decode (mB M) pc = .ok (.new idx, 3)) (hk : Nat.blt k 4 = true) (hi : cnt h k = i) (hs : shp k i = (0, ci)) (hw : nwd (mY M).cls idx ci) (hZ : cZ h < ZM) (kk : Ev E M (pc + 3) ls (vR k i :: st) (nw h k) P) : Ev E M pc ls st h P := by
  intro p e R s m args below meth c H locs cells slots lsA ad ad0 h0 hC hL hS
  subst hi
  have hk4 : k < 4 := by simpa [Nat.blt_eq] using hk
  have hN : nfl ci ≤ 512 := Nat.le_trans (nfl_le ci) (by decide)
  obtain ⟨rc, rs⟩ := ev_room hC hZ hN
  have hKn := ev_cls hC hw.1
  refine W.newcK hC.ex hC.cd hC.own (hC.w hw.2.1 args) (hC.w hw.2.2.1 args) (hC.w hw.2.2.2 args) rfl hd rc rs hKn.2.1 rfl fun H1 kC hkC e1 z1 o1 => ?_
  have hob := u_born (fty ci) (hC.hts args) (vT_in hw.1) hKn hkC e1 (vT_ty hw.1)
  have hR : Rl E (adN ad k (cnt h k) H.size) (nw h k) H1 := by
    refine hC.2.2.1.new1 hk4 hZ z1 o1 ⟨fun _ => ?_, fun z => ?_, fun z => ?_, fun z => ?_⟩
    · rw [hs, adN_at]
      exact ⟨hob.to fun f _ => fty_dv.1, fun f _ => (fty_dv (ad := ad)).2⟩
    · rw [hs] at z; cases z
    · rw [hs] at z; cases z
    · rw [hs] at z; exact absurd z (by simp)
  exact ev_made hC hL hS hk4 hN hR z1 kk
theorem Ev_newaI {k i n : Nat} {x : Int32} (hd : decode (mB M) pc = .ok (.newarray .int, 2)) (hk : Nat.blt k 4 = true) (hi : cnt h k = i) (hs : shp k i = (1, n)) (hx0 : ¬ x < 0) (hxn : x.toNatClampNeg = n) (hn : Nat.ble n 512 = true) (hw : wd (.arrayClass .int)) (hZ : cZ h < ZM) (kk : Ev E M (pc + 2) ls (vR k i :: st) (nw h k) P) : Ev E M pc ls (vI x :: st) h P := by
  intro p e R s m args below meth c H locs cells slots lsA ad ad0 h0 hC hL hS
  subst hi
  have hk4 : k < 4 := by simpa [Nat.blt_eq] using hk
  have hN : n ≤ 512 := by simpa using hn
  obtain ⟨rc, rs⟩ := ev_room hC hZ hN
  refine va_newaK hC.ex hC.cd (atype := .int) (hC.w hw args) rfl hd rfl hx0 hxn (by show n * 4 ≤ _; omega) rc rs rfl fun H1 cA e1 z1 o1 hA hf => ?_
  have hRA : s.vm.findClass ("[" ++ FieldType.int.toString) = some (eC E 0) := (hC.K.2 0 _ rfl).2
  have hcA : cA = eC E 0 := Option.some.inj (hf.symm.trans hRA)
  subst hcA
  have hR : Rl E (adN ad k (cnt h k) H.size) (nw h k) H1 := by
    refine hC.2.2.1.new1 hk4 hZ z1 o1 ⟨fun z => ?_, fun _ => ?_, fun z => ?_, fun z => ?_⟩
    · rw [hs] at z; cases z
    · rw [hs, adN_at, e1]
      refine congrArg some (arrV_congr fun j _ => ?_)
      rw [gI_nw]; rfl
    · rw [hs] at z; cases z
    · rw [hs] at z; exact absurd z (by simp)
  exact ev_made hC hL (lvS_2 hS) hk4 hN hR z1 kk
theorem Ev_newaL {k i n : Nat} {x : Int32} (hd : decode (mB M) pc = .ok (.newarray .long, 2)) (hk : Nat.blt k 4 = true) (hi : cnt h k = i) (hs : shp k i = (2, n)) (hx0 : ¬ x < 0) (hxn : x.toNatClampNeg = n) (hn : Nat.ble n 512 = true) (hw : wd (.arrayClass .long)) (hZ : cZ h < ZM) (kk : Ev E M (pc + 2) ls (vR k i :: st) (nw h k) P) : Ev E M pc ls (vI x :: st) h P := by
  intro p e R s m args below meth c H locs cells slots lsA ad ad0 h0 hC hL hS
  subst hi
  have hk4 : k < 4 := by simpa [Nat.blt_eq] using hk
  have hN : n ≤ 512 := by simpa using hn
  obtain ⟨rc, rs⟩ := ev_room hC hZ hN
  refine va_newaK hC.ex hC.cd (atype := .long) (hC.w hw args) rfl hd rfl hx0 hxn (by show n * 8 ≤ _; omega) rc rs rfl fun H1 cA e1 z1 o1 hA hf => ?_
  have hRA : s.vm.findClass ("[" ++ FieldType.long.toString) = some (eC E 1) := (hC.K.2 1 _ rfl).2
  have hcA : cA = eC E 1 := Option.some.inj (hf.symm.trans hRA)
  subst hcA
  have hR : Rl E (adN ad k (cnt h k) H.size) (nw h k) H1 := by
    refine hC.2.2.1.new1 hk4 hZ z1 o1 ⟨fun z => ?_, fun z => ?_, fun _ => ?_, fun z => ?_⟩
    · rw [hs] at z; cases z
    · rw [hs] at z; cases z
    · rw [hs, adN_at, e1]
      refine congrArg some (arrV_congr fun j _ => ?_)
      rw [gL_nw]; rfl
    · rw [hs] at z; exact absurd z (by simp)
  exact ev_made hC hL (lvS_2 hS) hk4 hN hR z1 kk
theorem Ev_anew {k i t n idx : Nat} {x : Int32} (hd : decode (mB M) pc = .ok (.anewarray idx, 3)) (hk : Nat.blt k 4 = true) (hi : cnt h k = i) (hs : shp k i = (t, n)) (ht : t = 3 ∨ t = 4) (hx0 : ¬ x < 0) (hxn : x.toNatClampNeg = n) (hn : Nat.ble n 512 = true) (hw : wd (.classLink (mY M).cls idx (aC t))) (hw2 : wd (.arrayOver (.object (aC t)))) (hZ : cZ h < ZM) (kk : Ev E M (pc + 3) ls (vR k i :: st) (nw h k) P) : Ev E M pc ls (vI x :: st) h P := by
  intro p e R s m args below meth c H locs cells slots lsA ad ad0 h0 hC hL hS
  subst hi
  have hk4 : k < 4 := by simpa [Nat.blt_eq] using hk
  have hN : n ≤ 512 := by simpa using hn
  obtain ⟨rc, rs⟩ := ev_room hC hZ hN
  have hRA : va_RA s (eC E (t - 1)) (.object (aC t)) := by
    rcases ht with rfl | rfl
    · exact (hC.K.2 2 _ rfl).2
    · exact (hC.K.2 3 _ rfl).2
  obtain ⟨kA, comp, k1, k2, k3, k5⟩ := hRA
  refine W.anew hC.ex hC.cd hC.own (hC.w hw args) (hC.w hw2 args) rfl hd rfl hx0 (by rw [hxn]; omega) rc (by rw [hxn]; exact rs) fun cA kA' comp' g1 g2 g3 g4 => ?_
  have hcA : cA = eC E (t - 1) := Option.some.inj (g1.symm.trans k5)
  subst hcA
  rw [hxn]
  have z1 : (H.push { cls := eC E (t - 1), slots := Array.replicate n .null, vm := .none }).size = H.size + 1 := by simp
  have o1 : ∀ q, q < H.size → (H.push { cls := eC E (t - 1), slots := Array.replicate n .null, vm := .none })[q]? = H[q]? := by
    intro q hq
    rw [Array.getElem?_push, if_neg (Nat.ne_of_lt hq)]
  have hR : Rl E (adN ad k (cnt h k) H.size) (nw h k) (H.push { cls := eC E (t - 1), slots := Array.replicate n .null, vm := .none }) := by
    refine hC.2.2.1.new1 hk4 hZ z1 o1 ⟨fun z => ?_, fun z => ?_, fun z => ?_, fun _ => ⟨?_, fun j _ => ?_⟩⟩
    · rw [hs] at z; rcases ht with rfl | rfl <;> cases z
    · rw [hs] at z; rcases ht with rfl | rfl <;> cases z
    · rw [hs] at z; rcases ht with rfl | rfl <;> cases z
    · rw [hs, adN_at, arrV_new]
      rw [Array.getElem?_push, if_pos rfl]
      refine congrArg some (arrV_congr fun j _ => ?_)
      rw [gR_nw]; rfl
    · rw [gR_nw]; trivial
  exact ev_made hC hL (lvS_2 hS) hk4 hN hR z1 kk
def wt : List ev_V → Nat
  | [] => 0
  | v :: t => cond (sg v) 1 2 + wt t
theorem cv_wt {ad : Nat → Nat → Nat} : ∀ st : List ev_V, ((st.map (cv ad)).map fun v => v.category).sum = wt st
  | [] => rfl
  | v :: t => by
    have e : (cv ad v).category = cond (sg v) 1 2 := by
      cases hq : sg v
      · rcases v with (_ | ⟨k, i⟩) | (x | x)
        · cases hq
        · cases hq
        · cases hq
        · rfl
      · rw [cv_sg hq]; rfl
    rw [List.map_cons, List.map_cons, List.sum_cons, e, cv_wt t]
    rfl
theorem Ev_objInit {a b idx : Nat} (hd : decode (mB M) pc = .ok (.invokespecial idx, 3)) (hw : wd (.methodLink (mY M).cls idx Lib.objectInit)) (hw2 : wd (.instanceMethod Lib.objectInit)) (hw3 : wd (.code Lib.objectInit ⟨#[0xb1]⟩ 1 none)) (hst : Nat.ble (wt st) 8 = true) (kk : Ev E M (pc + 3) ls st h P) : Ev E M pc ls (vR a b :: st) h P := by
  intro p e R s m args below meth c H locs cells slots lsA ad ad0 h0 hC hL hS
  obtain ⟨z, hz⟩ := cv_ref (ad := ad) a b
  rw [List.map_cons, hz]
  have i12 := hC.2.1.2.2.2.2.2.2.2.2.2.2.2.1
  have i13 := hC.2.1.2.2.2.2.2.2.2.2.2.2.2.2.1
  have hst8 : wt st ≤ 8 := by simpa using hst
  refine W.objInit hC.ex hC.cd hC.own (hC.w hw args) (hC.w hw2 args) (hC.w hw3 args) rfl (hL.sz.trans hC.ml.symm) rfl hd (by omega) ?_ (kk p e R s m args below meth c H locs cells slots lsA ad ad0 h0 hC hL (lvS_2 hS))
  rw [cv_wt]
  show 2 * 0 + wt st + 12 ≤ R.locals
  omega
end EvN
/-! calls -/
def eargs : Nat → List ev_V → List (Nat × ev_V)
  | _, [] => []
  | i, v :: t => (i, v) :: eargs (i + 1) t
theorem ev_entry {ad : Nat → Nat → Nat} {h : ev_H} : ∀ (as : List ev_V) (n : Nat), as.all sg = true → lvS h as → ∀ i v, lget (eargs n as) i = some v → (i, cv ad v) ∈ lv_args n (as.map (cv ad)) ∧ lvV h v ∧ (cv ad v).category = 1
  | [], n, _, _, i, v, q => by cases q
  | a :: t, n, hs, hl, i, v, q => by
    have hs1 : sg a = true := by
      have := List.all_cons (a := a) (l := t) (f := sg) ▸ hs
      simp only [Bool.and_eq_true] at this
      exact this.1
    have hs2 : t.all sg = true := by
      have := List.all_cons (a := a) (l := t) (f := sg) ▸ hs
      simp only [Bool.and_eq_true] at this
      exact this.2
    have e : lv_args n ((a :: t).map (cv ad)) = (n, cv ad a) :: lv_args (n + 1) (t.map (cv ad)) := by
      rw [List.map_cons]
      show (n, cv ad a) :: lv_args (if (cv ad a).category = 2 then n + 2 else n + 1) _ = _
      rw [cv_sg hs1, if_neg (by decide)]
    rw [e]
    by_cases hi : n = i
    · subst hi
      have : some a = some v := by simpa [eargs, lget] using q
      cases this
      exact ⟨List.mem_cons_self, lvS_1 hl, cv_sg hs1⟩
    · have e2 : Nat.beq n i = false := nbq hi
      have q' : lget (eargs (n + 1) t) i = some v := by simpa [eargs, lget, e2] using q
      obtain ⟨r1, r2, r3⟩ := ev_entry t (n + 1) hs2 (lvS_2 hl) i v q'
      exact ⟨List.mem_cons_of_mem _ r1, r2, r3⟩
theorem ev_sl {ad : Nat → Nat → Nat} : ∀ as : List ev_V, as.all sg = true → (lg_sl (as.map (cv ad))).length = as.length
  | [], _ => rfl
  | a :: t, hs => by
    have hs' : (sg a && t.all sg) = true := by rw [← List.all_cons]; exact hs
    simp only [Bool.and_eq_true] at hs'
    have ih := ev_sl (ad := ad) t hs'.2
    unfold lg_sl at ih ⊢
    rw [List.map_cons, List.flatMap_cons, cv_sg hs'.1, if_neg (by decide), List.length_append, ih]
    simp [Nat.add_comm]
def cwM (M : ev_M) : Cond := .codeWith (mY M) (mB M) (mL M) (mR M) (mH M)
/-- a method that may be called -/
def mcw (M : ev_M) : Prop := (wd (cwM M) ∨ (mH M = [] ∧ wd (.code (mY M) (mB M) (mL M) (mR M)))) ∧ wd (.initialized (mY M).cls) ∧ plainName (mY M).cls = true ∧ (mY M).cls ≠ "java/lang/invoke/MethodHandle" ∧ (mY M).cls ≠ "java/lang/invoke/VarHandle" ∧ mL M ≤ 11
theorem mcw.cw {E : ev_E} {M : ev_M} (hG : ev_G E) (q : mcw M) {U : State} (hW : (eS E).WarmedH U.vm) (a : Array Value) : (cwM M).before a U = true := by
  rcases q.1 with z | ⟨z1, z2⟩
  · exact gw_at z.2 hW (hG.2.1 _ z.1)
  · have := gw_at (A' := a) z2.2 hW (hG.2.1 _ z2.1)
    unfold cwM
    rw [z1]
    have h2 : (Cond.code (mY M) (mB M) (mL M) (mR M)).holds a U none U [] = true := this
    show (Cond.codeWith (mY M) (mB M) (mL M) (mR M) []).holds a U none U [] = true
    unfold Cond.holds at h2 ⊢
    rw [← Cond.code_iff_codeWith_nil]
    exact h2
def rmM (E : ev_E) (M : ev_M) (H : Heap) : Room := { frames := mD M + 2, locals := 30 * mD M + 124, cells := eZ E + ZM - H.size, slots := 512 * (eZ E + ZM - H.size) }
theorem ev_met {E : ev_E} {M : ev_M} {as : List ev_V} {h : ev_H} {P : Option ev_V ⊕ Nat → ev_H → Prop} {ad : Nat → Nat → Nat} {H : Heap} (hG : ev_G E) (hpl : plainName (mY M).cls = true) (hev : Ev E M 0 (eargs 0 as) [] h P) (hsg : as.all sg = true) (hlen : as.length ≤ mL M) (hR : Rl E ad h H) (hlv : lvS h as) :
    MetFree (eL E) (mY M) (headSpec [cwM M] (rmM E M H)) (fun a st => a = (as.map (cv ad)).toArray ∧ st.heap = H ∧ (eS E).WarmedH st.vm) (fun _ _ _ _ _ => True) (fun _ st o t => ev_Q E st ad h P o t) := by
  refine MetFree.of_bodyS (code := mB M) (maxLocals := mL M) (ret := mR M) hpl ?_ ?_
  · intro args s m hh hn
    obtain ⟨m9, meth, c, hn9, h1, h2, h3, h4, -, h5, h6, -⟩ := Cond.codeWith_spec (atoms_spec (ws := [cwM M]) hh _ List.mem_cons_self)
    cases hn.symm.trans hn9
    exact ⟨meth, c, h1, h2, h3, h4, h5, h6⟩
  · intro p e s m args below meth c s₁ B hml hP _
    obtain ⟨rfl, hH, hWm⟩ := hP
    have hh0 : s₁.heap = s.heap := by rw [B.state]; rfl
    have htab : c.exceptionTable.toList = tableOf (mH M) := vx_table (x := mY M) B (atoms_spec (ws := [cwM M]) B.pre _ List.mem_cons_self)
    have hown : s.vm.findClass (mY M).cls = some m.cls := findClass_of_methodNamed B.named
    have r1 := hR.1
    have r2 := hR.2.1
    have hI : ev_I E M p (rmM E M H) s m meth c := ⟨B.exec, B.bytes, B.returns, hml, hown, (name_of_methodNamed B.named B.method).1, B.notSynchronized, htab, hWm, fun q hq => by rw [hH]; exact hR.2.2.1 q hq, by rw [hH, r1]; omega, Nat.le_refl _, Nat.le_refl _, by
      show eZ E + ZM ≤ s.heap.size + (eZ E + ZM - H.size)
      rw [hH]; omega, by rw [hH]; exact Nat.le_refl _⟩
    have hC : ev_C E M p (rmM E M H) s m meth c s.heap [] 0 0 ad ad h h := ⟨hG, hI, by rw [hH]; exact hR, Nat.le_refl _, by omega, by omega, (fun q hq => nomatch hq), xt.rf⟩
    have hen := lv_entry (as.map (cv ad)) (n := mL M) (by rw [ev_sl as hsg]; exact hlen)
    have w := hev p e (rmM E M H) s m (as.map (cv ad)).toArray below meth c s.heap [] 0 0 _ ad ad h hC ⟨_, hen, ev_entry as 0 hsg hlv⟩ trivial
    have w' : W p (eL E) e (rmM E M H) s m (as.map (cv ad)).toArray below meth c s.heap [] 0 0 (ev_QE E s below ad h P) (entryFrame m (as.map (cv ad)).toArray (mL M)) := by
      rw [lg_entry_eq]; exact w
    obtain ⟨t, a1, o, b1, b2, b3⟩ := w' s₁ hh0 (Stand.of_body B)
    exact ⟨t, o, a1, b1, b2, b3⟩
/-- how a call of M' comes back into the frame g -/
def ev_B (E : ev_E) (M : ev_M) (p : Program) (e : Env) (R : Room) (s : State) (m : MethodId) (args : Array Value) (below : List Frame) (meth : Method) (c : Code) (ad ad0 : Nat → Nat → Nat) (h h0 : ev_H) (P' : Option ev_V ⊕ Nat → ev_H → Prop) (S0 : State) (g : JFrame) (len : Nat) : Prop :=
  ∃ (h' : ev_H) (ad' : Nat → Nat → Nat) (T' : State) (locs' : List Loc), ev_C E M p R s m meth c T'.heap locs' (T'.heap.size - s.heap.size) (512 * (T'.heap.size - s.heap.size)) ad' ad0 h' h0 ∧ xt ad h ad' h' ∧
    Stand p (eL E) e R s m args below meth c T' locs' (T'.heap.size - s.heap.size) (512 * (T'.heap.size - s.heap.size)) ∧
    ((∃ v : Option ev_V, P' (.inl v) h' ∧ (∀ w, v = some w → lvV h' w) ∧ Steps p.tables e below S0 (T'.setTop { g with pc := g.pc + len, stack := (v.map (cv ad')).toList ++ g.stack })) ∨
     (∃ (x : Nat) (q : Addr) (ce : Cell), P' (.inr x) h' ∧ x < 5 ∧ T'.heap[q]? = some ce ∧ ce.vm = .none ∧ s.vm.findClass (xN x) = some ce.cls ∧ Steps p.tables e below S0 ((T'.setTop g).pushFrame (.throwing q))))
theorem ev_call {E : ev_E} {M M' : ev_M} {p : Program} {e : Env} {R : Room} {s : State} {m : MethodId} {args : Array Value} {below : List Frame} {meth : Method} {c : Code} {H : Heap} {locs : List Loc} {cells slots : Nat} {ad ad0 : Nat → Nat → Nat} {h h0 : ev_H} {P' : Option ev_V ⊕ Nat → ev_H → Prop} {as : List ev_V}
    (hC : ev_C E M p R s m meth c H locs cells slots ad ad0 h h0) (hdp : mD M' < mD M) (mw : mcw M') (hsg : as.all sg = true) (hlen : as.length ≤ mL M') (hlv : lvS h as) (hev : Ev E M' 0 (eargs 0 as) [] h P')
    {T : State} (hT : T.heap = H) (X : Stand p (eL E) e R s m args below meth c T locs cells slots) {g : JFrame} (hg : g.method = m) (hsize : g.locals.size = c.maxLocals) {ig : Instr} {len : Nat} (hdg : decode c.code g.pc = .ok (ig, len)) (hW : 2 * g.monitorRoom + (g.stack.map fun v => v.category).sum ≤ 8) {mk : MethodId} (hn : T.methodNamed? (mY M') = some mk) :
    ev_B E M p e R s m args below meth c ad ad0 h h0 P' (doInvoke e (T.setTop g) [] mk (as.map (cv ad)).toArray).1 g len := by
  have hWs : (eS E).WarmedH T.vm := State.WarmedH.trans hC.wm X.warmed
  have hG := hC.1
  have hR := hC.2.2.1
  have hM := ev_met (M := M') hG mw.2.2.1 hev hsg hlen hR hlv
  have h2 : (cwM M').before (as.map (cv ad)).toArray T = true := mw.cw hG hWs _
  have h1 : (headSpec [cwM M'] (rmM E M' H)).pre.before (as.map (cv ad)).toArray T = true := atoms_intro fun w hw => by
    rw [List.mem_singleton.mp hw]; exact h2
  have h3 : (Cond.initialized (mY M').cls).before (as.map (cv ad)).toArray T = true := gw_at mw.2.1.2 hWs (hG.2.1 _ mw.2.1.1)
  have r1 := hR.1
  have r2 := hR.2.1
  have z1 := hC.2.2.2.1
  have z2 := hC.2.2.2.2.1
  have z3 := hC.2.2.2.2.2.1
  have i11 := hC.2.1.2.2.2.2.2.2.2.2.2.2.1
  have i12 := hC.2.1.2.2.2.2.2.2.2.2.2.2.2.1
  have i13 := hC.2.1.2.2.2.2.2.2.2.2.2.2.2.2.1
  have i14 := hC.2.1.2.2.2.2.2.2.2.2.2.2.2.2.2.1
  have i15 := hC.2.1.2.2.2.2.2.2.2.2.2.2.2.2.2.2
  have mL11 := mw.2.2.2.2.2
  have hPc : (as.map (cv ad)).toArray = (as.map (cv ad)).toArray ∧ (T.calling g mk (as.map (cv ad)).toArray).heap = H ∧ (eS E).WarmedH (T.calling g mk (as.map (cv ad)).toArray).vm := ⟨rfl, hT, hWs⟩
  generalize haa : (as.map (cv ad)).toArray = a at hM h1 h2 h3 hPc ⊢
  obtain ⟨m9, methY, cY, hn9, hmY, hcY, -, hlY, -⟩ := Cond.codeWith_spec h2
  cases Option.some.inj (hn9.symm.trans hn)
  obtain ⟨kY, hkY, -⟩ := className_of_methodNamed hn
  have hinitY : kY.init = .initialized := Cond.initialized_spec (findClass_of_methodNamed hn) hkY h3
  have hA : At T g.method c below := by rw [hg]; exact X.here
  have happ : (headSpec [cwM M'] (rmM E M' H)).appliesLoose (mY M') e.platform (T.calling g mk a) = true :=
    Spec.appliesLoose_calling (g := g) hA hdg hn hkY hinitY
      (X.room_calling (g := g) (R' := rmM E M' H) hsize hmY hcY (by show mD M' + 2 + 1 ≤ R.frames; omega) (by rw [hlY]; show _ + (mL M' + 11) + (30 * mD M' + 124) ≤ R.locals; omega) (by show cells + (eZ E + ZM - H.size) ≤ R.cells; omega) (by show slots + 512 * (eZ E + ZM - H.size) ≤ R.slots; omega)) h1
  obtain ⟨mid, hmid⟩ := hA.above
  have hfr : (T.setTop g).frames = (.java g :: mid) ++ below := by rw [State.frames_setTop' g hA.top, hmid]; rfl
  obtain ⟨o, s₂, hsteps, -, hend, hq⟩ := Steps.callFree hM p X.admits X.cas X.clock (acts := []) hfr happ (by rw [← haa] at hPc ⊢; exact hPc) trivial
  have hq' : ev_Q E (T.calling g mk a) ad h P' o s₂ := hq
  rw [State.frames_setTop' g hA.top] at hend
  obtain ⟨g₀, hg0⟩ := Option.isSome_iff_exists.mp hA.top
  obtain ⟨rr, hr⟩ := State.topJava?_eq_some.mp hg0
  have hr' : (({ T with heap := s₂.heap, slotsUsed := s₂.slotsUsed } : State).setVm s₂.vm).frames = .java g₀ :: rr := hr
  obtain ⟨r, h', ad', hW₂, ⟨L, hsm, hL⟩, hR', hx', hO, hP'⟩ := hq'
  obtain ⟨e2, q2, q3, q4, q5, q6⟩ := id hsm
  have e3 : s₂ = ({ (T.calling g mk a).setFrames s₂.frames with heap := s₂.heap, slotsUsed := s₂.slotsUsed } : State).setVm s₂.vm := by
    have : s₂ = ({ s₂ with vm := (T.calling g mk a).vm } : State).setVm s₂.vm := rfl
    rw [e2] at this
    exact this
  have hW' : T.WarmedH s₂.vm := hW₂
  have hTH : T.heap.size = H.size := by rw [hT]
  have q2' : H.size ≤ s₂.heap.size := by rw [← hTH]; exact q2
  have hsame : T.sameButNew ({ T with heap := s₂.heap, slotsUsed := s₂.slotsUsed } : State) L (s₂.heap.size - T.heap.size) (512 * (s₂.heap.size - T.heap.size)) := by
    refine ⟨?_, q2, ?_, q4, q5, q6⟩
    · obtain ⟨t, ht, -⟩ := State.frames_cons hr
      show ({ T with heap := s₂.heap, slotsUsed := s₂.slotsUsed } : State) = { T.setFrames T.frames with heap := s₂.heap, slotsUsed := s₂.slotsUsed }
      rw [State.setFrames_self ht]
    · show s₂.heap.size ≤ T.heap.size + (s₂.heap.size - T.heap.size)
      have : T.heap.size ≤ s₂.heap.size := q2
      omega
  rw [hTH] at hsame
  subst hg
  have X' : Stand p (eL E) e R s g.method args below meth c (({ T with heap := s₂.heap, slotsUsed := s₂.slotsUsed } : State).setVm s₂.vm) (locs ++ L) (cells + (s₂.heap.size - H.size)) (slots + 512 * (s₂.heap.size - H.size)) :=
    ⟨X.admits, X.cas, X.clock, X.frames, X.room, X.hears, X.method, X.code, (X.here.setHeapUsed s₂.heap s₂.slotsUsed).setVm hW'.alike, X.tail, State.WarmedH.trans X.warmed hW', X.limits, X.bytes, X.same.trans (hsame.setVm s.vm)⟩
  have X2 := stand_widen X' (k := s₂.heap.size - s.heap.size) (n := 512 * (s₂.heap.size - s.heap.size)) (by omega) (by omega)
  have hlocs : ∀ q ∈ locs ++ L, eZ E ≤ q.base := fun q hq => by
    rcases List.mem_append.mp hq with z | z
    · exact hC.2.2.2.2.2.2.1 q z
    · exact hL q z
  have hC2 : ev_C E M p R s g.method meth c s₂.heap (locs ++ L) (s₂.heap.size - s.heap.size) (512 * (s₂.heap.size - s.heap.size)) ad' ad0 h' h0 := hC.mk hR' (by omega) hlocs hx'
  refine ⟨h', ad', ({ T with heap := s₂.heap, slotsUsed := s₂.slotsUsed } : State).setVm s₂.vm, locs ++ L, hC2, hx', X2, ?_⟩
  rcases r with v | x
  · left
    have hov : o = .returned (v.map (cv ad')) ∧ ∀ w, v = some w → lvV h' w := by
      cases v with
      | none => exact ⟨hO, fun w z => nomatch z⟩
      | some w =>
        obtain ⟨o1, o2⟩ := hO
        exact ⟨o1, fun w' z => by cases z; exact o2⟩
    obtain ⟨rfl, hov2⟩ := hov
    refine ⟨v, hP', hov2, ?_⟩
    obtain ⟨c₂, i₂, len₂, hc₂, hd₂, hf₂⟩ := hend
    have hcc : c₂ = c := by
      have h1 : s₂.code? g.method = T.code? g.method := by
        rw [State.code?_eq, State.code?_eq, hW'.alike.method?]
      exact Option.some.inj (hc₂.symm.trans (h1.trans hA.code))
    subst hcc
    have hlen2 : len₂ = len := by rw [hdg] at hd₂; cases hd₂; rfl
    subst hlen2
    have hs₂ : s₂ = (({ T with heap := s₂.heap, slotsUsed := s₂.slotsUsed } : State).setVm s₂.vm).setTop { g with pc := g.pc + len₂, stack := (v.map (cv ad')).toList ++ g.stack } := by
      refine e3.trans ?_
      rw [hf₂, State.calling_eq hA.top, State.setFrames_setFrames, State.setTop_of_frames _ hr', hr]
      rfl
    rw [← hs₂]
    exact hsteps
  · right
    obtain ⟨hx5, q, ce, rfl, hce, hcv, hcl⟩ := hO
    have hcl' : s.vm.findClass (xN x) = some ce.cls := by
      have h9 : T.vm.findClass (xN x) = some ce.cls := hcl
      rw [X.warmed.alike.findClass] at h9
      exact h9
    refine ⟨x, q, ce, hP', hx5, hce, hcv, hcl', ?_⟩
    have hf₂ : s₂.frames = .throwing q :: .java g :: T.frames.tail := hend
    have hs₂ : s₂ = ((({ T with heap := s₂.heap, slotsUsed := s₂.slotsUsed } : State).setVm s₂.vm).setTop g).pushFrame (.throwing q) := by
      refine e3.trans ?_
      rw [hf₂, State.calling_eq hA.top, State.setFrames_setFrames, State.pushFrame, State.frames_setTop _ hr', State.setTop_of_frames _ hr', State.setFrames_setFrames, hr]
      rfl
    rw [← hs₂]
    exact hsteps
end
section
/-! calls, throws, catches -/
def xJ (ct : Nat) : Nat := cond (Nat.beq ct 13) 0 (cond (Nat.beq ct 19) 1 (cond (Nat.beq ct 25) 2 (cond (Nat.beq ct 31) 3 4)))
def okc (z : Nat × Nat × Nat × Nat) : Bool := Nat.beq (xI (xJ z.2.2.2)) z.2.2.2
def hcov (z : Nat × Nat × Nat × Nat) (pc : Nat) : Bool := Nat.ble z.1 pc && Nat.blt pc z.2.1
def hnd : List (Nat × Nat × Nat × Nat) → Nat → Nat → Option Nat
  | [], _, _ => none
  | z :: r, pc, x => cond (hcov z pc && Nat.beq z.2.2.2 (xI x)) (some z.2.2.1) (hnd r pc x)
theorem xJ_lt (ct : Nat) : xJ ct < 5 := by
  unfold xJ
  cases Nat.beq ct 13 <;> cases Nat.beq ct 19 <;> cases Nat.beq ct 25 <;> cases Nat.beq ct 31 <;> decide
theorem xI_ne0 {x : Nat} (q : x < 5) : xI x ≠ 0 := by
  rcases ev_five q with rfl | rfl | rfl | rfl | rfl <;> decide
theorem hnd_split : ∀ (hh : List (Nat × Nat × Nat × Nat)) (pc x t : Nat), hnd hh pc x = some t → ∃ pre z suf, hh = pre ++ z :: suf ∧ hcov z pc = true ∧ z.2.2.2 = xI x ∧ z.2.2.1 = t ∧ ∀ y ∈ pre, hcov y pc = false ∨ y.2.2.2 ≠ xI x
  | [], _, _, _, q => nomatch q
  | z :: r, pc, x, t, q => by
    cases hb : (hcov z pc && Nat.beq z.2.2.2 (xI x))
    · have q' : hnd r pc x = some t := by
        have e : hnd (z :: r) pc x = hnd r pc x := by
          show cond (hcov z pc && Nat.beq z.2.2.2 (xI x)) _ _ = _
          rw [hb]; rfl
        rw [← e]; exact q
      obtain ⟨pre, z', suf, h1, h2, h3, h4, h5⟩ := hnd_split r pc x t q'
      refine ⟨z :: pre, z', suf, by rw [h1]; rfl, h2, h3, h4, fun y hy => ?_⟩
      rcases List.mem_cons.mp hy with rfl | hy
      · simp only [Bool.and_eq_false_iff] at hb
        rcases hb with hb | hb
        · exact Or.inl hb
        · exact Or.inr (nbq' hb)
      · exact h5 y hy
    · simp only [Bool.and_eq_true] at hb
      have e : hnd (z :: r) pc x = some z.2.2.1 := by
        show cond (hcov z pc && Nat.beq z.2.2.2 (xI x)) _ _ = _
        rw [hb.1, hb.2]; rfl
      refine ⟨[], z, r, rfl, hb.1, Nat.eq_of_beq_eq_true hb.2, Option.some.inj (e.symm.trans q), fun y hy => nomatch hy⟩
theorem lvS_mem0 {h : ev_H} : ∀ (l : List ev_V), lvS h l ↔ ∀ v ∈ l, lvV h v
  | [] => ⟨(fun _ _ z => nomatch z), fun _ => trivial⟩
  | a :: t => ⟨fun q v z => (List.mem_cons.mp z).elim (fun e => by rw [e]; exact lvS_1 q) (fun z => (lvS_mem0 t).mp (lvS_2 q) v z), fun q => lvS_c (q a List.mem_cons_self) ((lvS_mem0 t).mpr fun v z => q v (List.mem_cons_of_mem _ z))⟩
theorem lvS_mem {h : ev_H} {l : List ev_V} : lvS h l ↔ ∀ v ∈ l, lvV h v := lvS_mem0 l
def ev_X (E : ev_E) (M : ev_M) (pc : Nat) (ls : List (Nat × ev_V)) (P : Option ev_V ⊕ Nat → ev_H → Prop) (x : Nat) (h' : ev_H) : Prop :=
  (mH M = [] ∧ P (.inr x) h') ∨ ((mY M).cls = "TypedBloodLaw" ∧ (mH M).all okc = true ∧ ∃ t, hnd (mH M) pc x = some t ∧ ∀ q, Ev E M t ls [vR 4 q] h' P)
def ev_K (E : ev_E) (M : ev_M) (pc : Nat) (ls : List (Nat × ev_V)) (st : List ev_V) (P : Option ev_V ⊕ Nat → ev_H → Prop) : Option ev_V ⊕ Nat → ev_H → Prop := fun r h' => match r with
  | .inl none => Ev E M (pc + 3) ls st h' P
  | .inl (some v) => Ev E M (pc + 3) ls (v :: st) h' P
  | .inr x => ev_X E M pc ls P x h'
theorem ev_fin {E : ev_E} {M : ev_M} {p : Program} {e : Env} {R : Room} {s : State} {m : MethodId} {args : Array Value} {below : List Frame} {meth : Method} {c : Code} {ad ad0 : Nat → Nat → Nat} {h h0 : ev_H} {pc : Nat} {ls : List (Nat × ev_V)} {st : List ev_V} {P : Option ev_V ⊕ Nat → ev_H → Prop} {S0 : State} {lsA : Array Slot} {g : JFrame}
    (hL : ev_LR ad h (mL M) ls lsA) (hS : lvS h st) (hg : g = F0 m pc lsA (st.map (cv ad))) (hB : ev_B E M p e R s m args below meth c ad ad0 h h0 (ev_K E M pc ls st P) S0 g 3) : ∃ t, Steps p.tables e below S0 t ∧ ev_QE E s below ad0 h0 P t := by
  subst hg
  obtain ⟨h', ad', T', locs', hC', hx, X', hr⟩ := hB
  rcases hr with ⟨v, hk, hlv, hst⟩ | ⟨x, q, ce, hk, hx5, hce, hcv, hcl, hst⟩
  · cases v with
    | none =>
      have hk' : Ev E M (pc + 3) ls st h' P := hk
      have w := hk' p e R s m args below meth c T'.heap locs' _ _ lsA ad' ad0 h0 hC' (hL.mv hx) (hx.S hS).1
      rw [(hx.S hS).2] at w
      obtain ⟨t, a, b⟩ := w T' rfl X'
      exact ⟨t, hst.trans a, b⟩
    | some v =>
      have hk' : Ev E M (pc + 3) ls (v :: st) h' P := hk
      have w := hk' p e R s m args below meth c T'.heap locs' _ _ lsA ad' ad0 h0 hC' (hL.mv hx) (lvS_c (hlv v rfl) (hx.S hS).1)
      rw [List.map_cons, (hx.S hS).2] at w
      obtain ⟨t, a, b⟩ := w T' rfl X'
      exact ⟨t, hst.trans a, b⟩
  · have htab : c.exceptionTable.toList = tableOf (mH M) := hC'.2.1.2.2.2.2.2.2.2.1
    rcases (show ev_X E M pc ls P x h' from hk) with ⟨hm, hp⟩ | ⟨hlaw, hok, t, hh, hev⟩
    · have hlocks : meth.locks = false := hC'.2.1.2.2.2.2.2.2.1
      obtain ⟨st1, hrun, hend, hW, hsm⟩ := X'.leaveThrown q (g := F0 m pc lsA (st.map (cv ad))) rfl rfl rfl (fun z hz => by rw [htab, hm] at hz; exact nomatch hz) hlocks
      refine ⟨_, hst.trans st1, .threw q, hrun, hend, .inr x, h', ad', hW, ⟨locs', hsm, hC'.2.2.2.2.2.2.1⟩, hC'.2.2.1, hC'.2.2.2.2.2.2.2, ⟨hx5, q, ce, rfl, hce, hcv, hcl⟩, hp⟩
    · obtain ⟨pre, z, suf, g1, g2, g3, g4, g5⟩ := hnd_split (mH M) pc x t hh
      have hpl : e.platform.magicAccessors = ({} : Platform).magicAccessors := by rw [X'.admits.platform]
      have hown : s.vm.findClass "TypedBloodLaw" = some m.cls := hlaw ▸ hC'.own
      obtain ⟨c3, c4, hc3, hc4, hasg⟩ := Cond.castable_spec (hC'.w (xl x hx5).2 args)
      cases Option.some.inj (hc3.symm.trans hcl)
      obtain ⟨c5, hc5, hcl5⟩ := Cond.classLink_spec hown (hC'.w (xl x hx5).1 args) e.platform hpl
      cases Option.some.inj (hc4.symm.trans hc5)
      have hsplit : c.exceptionTable.toList = tableOf pre ++ (⟨z.1, z.2.1, z.2.2.1, z.2.2.2⟩ : ExceptionTableEntry) :: tableOf suf := by
        rw [htab, g1]; simp [tableOf]
      have hcv1 : ∀ y : Nat × Nat × Nat × Nat, covers (⟨y.1, y.2.1, y.2.2.1, y.2.2.2⟩ : ExceptionTableEntry) pc = hcov y pc := by
        intro y
        unfold covers hcov
        have e1 : decide (y.1 ≤ pc) = Nat.ble y.1 pc := by
          cases hb : Nat.ble y.1 pc
          · exact decide_eq_false fun w => by rw [Nat.ble_eq_true_of_le w] at hb; cases hb
          · exact decide_eq_true (Nat.le_of_ble_eq_true hb)
        have e2 : decide (pc < y.2.1) = Nat.blt pc y.2.1 := by
          show decide (pc + 1 ≤ y.2.1) = Nat.ble (pc + 1) y.2.1
          cases hb : Nat.ble (pc + 1) y.2.1
          · exact decide_eq_false fun w => by rw [Nat.ble_eq_true_of_le w] at hb; cases hb
          · exact decide_eq_true (Nat.le_of_ble_eq_true hb)
        show (decide (y.1 ≤ pc) && decide (pc < y.2.1)) = _
        rw [e1, e2]
      obtain ⟨vm', X2, st2⟩ := X'.thenCaughtThrough q (g := F0 m pc lsA (st.map (cv ad))) rfl hst hce (by rw [hcv]; rfl) (by obtain ⟨k9, h9, -⟩ := Vm.findClass_spec hcl; exact ⟨k9, h9⟩) (tableOf pre) ⟨z.1, z.2.1, z.2.2.1, z.2.2.2⟩ (tableOf suf) hsplit
        (fun y hy => by
          obtain ⟨y0, hy0, rfl⟩ := List.mem_map.mp hy
          rcases g5 y0 hy0 with w | w
          · exact Or.inl ((hcv1 y0).trans w)
          · have hok0 : okc y0 = true := List.all_eq_true.mp hok y0 (by rw [g1]; exact List.mem_append_left _ hy0)
            have e0 : xI (xJ y0.2.2.2) = y0.2.2.2 := Nat.eq_of_beq_eq_true hok0
            have hne : x ≠ xJ y0.2.2.2 := fun e9 => w (by rw [← e0, e9])
            have hj := xJ_lt y0.2.2.2
            have hlk := hC'.w (xl (xJ y0.2.2.2) hj).1 args
            rw [e0] at hlk
            obtain ⟨c6, hc6, hcl6⟩ := Cond.classLink_spec hown hlk e.platform hpl
            obtain ⟨a8, b8, n1, n2, n3⟩ := hC'.1.2.2.2.2.2.2.2.2 x (xJ y0.2.2.2) hx5 hj hne
            have hal := hC'.wm.alike
            have n1' : s.vm.findClass (xN x) = some a8 := by rw [hal.findClass]; exact n1
            have n2' : s.vm.findClass (xN (xJ y0.2.2.2)) = some b8 := by rw [hal.findClass]; exact n2
            cases Option.some.inj (n1'.symm.trans hcl)
            cases Option.some.inj (n2'.symm.trans hc6)
            refine Or.inr ⟨?_, _, hcl6, by rw [hal.assignable]; exact n3⟩
            show y0.2.2.2 ≠ 0
            rw [← e0]
            exact xI_ne0 hj) ((hcv1 z).trans g2) (Or.inr ⟨by show z.2.2.2 ≠ 0; rw [g3]; exact xI_ne0 hx5, c4, by show s.vm.ClassLinks e.platform m.cls z.2.2.2 c4; rw [g3]; exact hcl5, hasg⟩)
      have w := hev q p e R s m args below meth c T'.heap locs' _ _ lsA ad' ad0 h0 hC' (hL.mv hx) (lvS_c (Or.inl rfl) trivial)
      obtain ⟨t2, a, b⟩ := w (T'.setVm vm') rfl X2
      refine ⟨t2, st2.trans ?_, b⟩
      subst g4
      exact a
/-- what a static method's callers need of it; an instance method's; a constructor's -/
def stM (M : ev_M) (n : Nat) : Prop := mcw M ∧ wd (.static (mY M)) ∧ (parseMethodDescriptor (mY M).desc).map (fun d => d.parameters.length) = some n ∧ n ≤ mL M
def vtM (M : ev_M) (n : Nat) : Prop := mcw M ∧ wd (.instanceMethod (mY M)) ∧ wd (.selects (mY M).cls (mY M) (mY M)) ∧ (parseMethodDescriptor (mY M).desc).map (fun d => d.parameters.length) = some n ∧ n + 1 ≤ mL M
def itM (M : ev_M) (n : Nat) : Prop := mcw M ∧ wd (.instanceMethod (mY M)) ∧ wd (.code (mY M) (mB M) (mL M) none) ∧ (mY M).name = "<init>" ∧ (parseMethodDescriptor (mY M).desc).map (fun d => d.parameters.length) = some n ∧ n + 1 ≤ mL M
theorem ev_len {d : String} {n : Nat} {l : List Value} (q : (parseMethodDescriptor d).map (fun d => d.parameters.length) = some n) (hl : l.length = n) : ∀ sig, parseMethodDescriptor d = some sig → l.length = sig.parameters.length := by
  intro sig hs
  rw [hs] at q
  rw [hl]
  exact (Option.some.inj q).symm
theorem wt8 {st : List ev_V} {m : MethodId} {pc : Nat} {lsA : Array Slot} {ad : Nat → Nat → Nat} (hw : Nat.ble (wt st) 8 = true) : 2 * (F0 m pc lsA (st.map (cv ad))).monitorRoom + ((F0 m pc lsA (st.map (cv ad))).stack.map fun v => v.category).sum ≤ 8 := by
  show 2 * 0 + ((st.map (cv ad)).map fun v => v.category).sum ≤ 8
  rw [cv_wt]
  have : wt st ≤ 8 := by simpa using hw
  omega
section EvK
variable {E : ev_E} {M M' : ev_M} {pc : Nat} {ls : List (Nat × ev_V)} {st : List ev_V} {h : ev_H} {P : Option ev_V ⊕ Nat → ev_H → Prop}
theorem Ev_callS {as st' : List ev_V} {idx n : Nat} (hd : decode (mB M) pc = .ok (.invokestatic idx, 3)) (hst : st' = as.reverse ++ st) (hn : as.length = n) (hdp : Nat.blt (mD M') (mD M) = true) (mw : stM M' n) (hl : wd (.methodLink (mY M).cls idx (mY M'))) (hsg : as.all sg = true) (hw : Nat.ble (wt st) 8 = true)
    (k : Ev E M' 0 (eargs 0 as) [] h (ev_K E M pc ls st P)) : Ev E M pc ls st' h P := by
  intro p e R s m args below meth c H locs cells slots lsA ad ad0 h0 hC hL hS
  subst hst
  have hlv : lvS h as := lvS_mem.mpr fun v hv => lvS_mem.mp hS v (List.mem_append_left _ (List.mem_reverse.mpr hv))
  have hSt : lvS h st := lvS_mem.mpr fun v hv => lvS_mem.mp hS v (List.mem_append_right _ hv)
  intro T hT X
  have hcode := mw.1.cw hC.1 hC.wm args
  obtain ⟨mk, methM, cM, hnamed, hmethM, -, -, -, -, -, -, hsigM⟩ := Cond.codeWith_spec hcode
  have hstatic : methM.isStatic = true := Cond.static_spec hnamed hmethM (hC.w mw.2.1 args)
  obtain ⟨kP, hkP, -⟩ := className_of_methodNamed hnamed
  have hinitP : kP.init = .initialized := Cond.initialized_spec (findClass_of_methodNamed hnamed) hkP (hC.w mw.1.2.1 args)
  have hstack : ((as.reverse ++ st).map (cv ad)) = (as.map (cv ad)).reverse ++ st.map (cv ad) := by rw [List.map_append, List.map_reverse]
  obtain ⟨vm₁, X₁, hstep₁⟩ := X.invokestatic hC.ex hC.own (hC.w hl args) hnamed hmethM hstatic hkP hinitP ⟨mw.1.2.2.2.1, mw.1.2.2.2.2.1⟩ (g := F0 m pc lsA ((as.reverse ++ st).map (cv ad))) rfl (argsL := as.map (cv ad)) (rest := st.map (cv ad)) (ev_len mw.2.2.1 (by rw [List.length_map]; exact hn) _ hsigM) hstack (by rw [hC.cd]; exact hd)
  have hB := ev_call (M := M) (M' := M') (as := as) (args := args) hC (by simpa [Nat.blt_eq] using hdp) mw.1 hsg (by rw [hn]; exact mw.2.2.2) hlv k (T := T.setVm vm₁) hT X₁ (g := F0 m pc lsA (st.map (cv ad))) rfl (hL.sz.trans hC.ml.symm) (by rw [hC.cd]; exact hd) (wt8 hw) (X₁.named hnamed)
  obtain ⟨t, a, b⟩ := ev_fin hL hSt rfl hB
  exact ⟨t, hstep₁ _ fun acts => by rw [doInvoke_state]; exact a, b⟩
theorem Ev_callV {as st' : List ev_V} {idx n a i ci : Nat} (hd : decode (mB M) pc = .ok (.invokevirtual idx, 3)) (hst : st' = as.reverse ++ vR a i :: st) (hn : as.length = n) (ha : Nat.blt a 4 = true) (hs : shp a i = (0, ci)) (hci : Nat.blt ci 5 = true) (hcl : (mY M').cls = vNm ci) (hdp : Nat.blt (mD M') (mD M) = true) (mw : vtM M' n) (hl : wd (.methodLink (mY M).cls idx (mY M'))) (hsg : as.all sg = true) (hw : Nat.ble (wt st) 8 = true)
    (k : Ev E M' 0 (eargs 0 (vR a i :: as)) [] h (ev_K E M pc ls st P)) : Ev E M pc ls st' h P := by
  intro p e R s m args below meth c H locs cells slots lsA ad ad0 h0 hC hL hS
  subst hst
  have hr0 : lvV h (vR a i) := lvS_mem.mp hS _ (List.mem_append_right _ List.mem_cons_self)
  have hlv : lvS h (vR a i :: as) := lvS_c hr0 (lvS_mem.mpr fun v hv => lvS_mem.mp hS v (List.mem_append_left _ (List.mem_reverse.mpr hv)))
  have hSt : lvS h st := lvS_mem.mpr fun v hv => lvS_mem.mp hS v (List.mem_append_right _ (List.mem_cons_of_mem _ hv))
  obtain ⟨k4, hi4, hz, q1, q2, q3⟩ := ev_obj hC ha hr0
  have c0 := q3.1 (by rw [hs])
  rw [hs] at c0
  obtain ⟨⟨cell, o1, o2, o3, o4⟩, o5⟩ := c0
  have hfc := (ev_cls hC (ci := ci) (by simpa [Nat.blt_eq] using hci)).2.1
  rw [← hcl, ← o2] at hfc
  intro T hT X
  have hcode := mw.1.cw hC.1 hC.wm args
  obtain ⟨mk, methM, hnamed, hmethM, hstM, habM⟩ := Cond.instanceMethod_spec (hC.w mw.2.1 args)
  obtain ⟨m8, methM', cM, hn8, hmethM', -, -, -, -, -, -, hsigM⟩ := Cond.codeWith_spec hcode
  cases Option.some.inj (hn8.symm.trans hnamed)
  cases hmethM.symm.trans hmethM'
  obtain ⟨c2, r2, m2, p1, p2, p3, p4, kP, hkP, hkPi⟩ := Cond.selects_spec (hC.w mw.2.2.1 args)
  cases hfc.symm.trans p1
  cases (State.methodFound?_of_named hnamed ⟨mw.1.2.2.2.1, mw.1.2.2.2.2.1⟩).symm.trans p2
  cases hnamed.symm.trans p3
  have hselP : selectMethod e.platform s.vm cell.cls mk = .method mk := by rw [Launch.admits_selectMethod X.admits]; exact p4
  have hstack : ((as.reverse ++ vR a i :: st).map (cv ad)) = (as.map (cv ad)).reverse ++ .ref (ad a i) :: st.map (cv ad) := by rw [List.map_append, List.map_reverse, List.map_cons, hz]
  have hargs : (Value.ref (ad a i) :: as.map (cv ad)).toArray = ((vR a i :: as).map (cv ad)).toArray := by rw [List.map_cons, hz]
  obtain ⟨vm₁, X₁, hstep₁⟩ := X.invokevirtual hC.ex hC.own (hC.w hl args) hnamed hmethM hstM hkP hkPi ⟨mw.1.2.2.2.1, mw.1.2.2.2.2.1⟩ (a := ad a i) (cell := cell) (by rw [hT]; exact o1)
    (fun z hq => by rw [o3] at hq; cases hq) hselP hmethM habM hkP hkPi (g := F0 m pc lsA ((as.reverse ++ vR a i :: st).map (cv ad))) rfl (argsL := as.map (cv ad)) (rest := st.map (cv ad)) (ev_len mw.2.2.2.1 (by rw [List.length_map]; exact hn) _ hsigM) hstack (by rw [hC.cd]; exact hd)
  have hB := ev_call (M := M) (M' := M') (as := vR a i :: as) (args := args) hC (by simpa [Nat.blt_eq] using hdp) mw.1 (by rw [List.all_cons, hsg]; rfl) (by rw [List.length_cons, hn]; exact mw.2.2.2.2) hlv k (T := T.setVm vm₁) hT X₁ (g := F0 m pc lsA (st.map (cv ad))) rfl (hL.sz.trans hC.ml.symm) (by rw [hC.cd]; exact hd) (wt8 hw) (X₁.named hnamed)
  obtain ⟨t, a', b⟩ := ev_fin hL hSt rfl hB
  exact ⟨t, hstep₁ _ fun acts => by rw [doInvoke_state, hargs]; exact a', b⟩
theorem Ev_callI {as st' : List ev_V} {idx n a i : Nat} (hd : decode (mB M) pc = .ok (.invokespecial idx, 3)) (hst : st' = as.reverse ++ vR a i :: st) (hn : as.length = n) (ha : Nat.blt a 4 = true) (hdp : Nat.blt (mD M') (mD M) = true) (mw : itM M' n) (hl : wd (.methodLink (mY M).cls idx (mY M'))) (hsg : as.all sg = true) (hw : Nat.ble (wt st) 8 = true)
    (k : Ev E M' 0 (eargs 0 (vR a i :: as)) [] h (ev_K E M pc ls st P)) : Ev E M pc ls st' h P := by
  intro p e R s m args below meth c H locs cells slots lsA ad ad0 h0 hC hL hS
  subst hst
  have hr0 : lvV h (vR a i) := lvS_mem.mp hS _ (List.mem_append_right _ List.mem_cons_self)
  have hlv : lvS h (vR a i :: as) := lvS_c hr0 (lvS_mem.mpr fun v hv => lvS_mem.mp hS v (List.mem_append_left _ (List.mem_reverse.mpr hv)))
  have hSt : lvS h st := lvS_mem.mpr fun v hv => lvS_mem.mp hS v (List.mem_append_right _ (List.mem_cons_of_mem _ hv))
  obtain ⟨k4, hi4, hz, q1, q2, q3⟩ := ev_obj hC ha hr0
  intro T hT X
  have hstack : ((as.reverse ++ vR a i :: st).map (cv ad)) = (as.map (cv ad)).reverse ++ .ref (ad a i) :: st.map (cv ad) := by rw [List.map_append, List.map_reverse, List.map_cons, hz]
  have hargs : (Value.ref (ad a i) :: as.map (cv ad)).toArray = ((vR a i :: as).map (cv ad)).toArray := by rw [List.map_cons, hz]
  obtain ⟨mk, methM, cM, kP, vm₁, hnamed, hmethM, -, -, -, -, hkP, -, hW₁, hstep₁⟩ := Steps.initColdArgs X.here hC.ex X.warmed X.magic hC.own (t := mY M') mw.2.2.2.1 ⟨mw.1.2.2.2.1, mw.1.2.2.2.2.1⟩ (hC.w hl args) (hC.w mw.2.1 args) (hC.w mw.2.2.1 args) (f := F0 m pc lsA ((as.reverse ++ vR a i :: st).map (cv ad))) rfl (ev_len mw.2.2.2.2.1 (by rw [List.length_map]; exact hn)) hstack (by rw [hC.cd]; exact hd)
  have X₁ := X.noted hW₁
  have hB := ev_call (M := M) (M' := M') (as := vR a i :: as) (args := args) hC (by simpa [Nat.blt_eq] using hdp) mw.1 (by rw [List.all_cons, hsg]; rfl) (by rw [List.length_cons, hn]; exact mw.2.2.2.2.2) hlv k (T := T.setVm vm₁) hT X₁ (g := F0 m pc lsA (st.map (cv ad))) rfl (hL.sz.trans hC.ml.symm) (by rw [hC.cd]; exact hd) (wt8 hw) (X₁.named hnamed)
  obtain ⟨t, a', b⟩ := ev_fin hL hSt rfl hB
  exact ⟨t, hstep₁ _ fun acts => by rw [doInvoke_state, hargs]; exact a', b⟩
/-- throw new X("text"): what is needed of the pool -/
def xS (x : Nat) : List String := ["java/lang/RuntimeException", "java/lang/Exception"]
def thr (own : String) (ik is ic : Nat) (text : String) (x : Nat) : Prop := x < 5 ∧ wd (.classLink own ik (xN x)) ∧ wd (.initialized (xN x)) ∧ Cond.stringRef own is text ∈ lw_tbl ∧ (∀ w ∈ vx_atS own ic (xN x) (xS x), wd w) ∧ Bundle.fit (xN x) = true ∧ (∀ n ∈ xS x, Bundle.fit n = true) ∧ ∀ ty, Cond.arrayOver ty ∉ vx_atS own ic (xN x) (xS x)
theorem gw_ot {w : Cond} (hg : gw w = true) (hn : ∀ ty, w ≠ .arrayOver ty) : vx_ot w = true := by
  unfold vx_ot
  by_cases hq : goodWord w = true
  · rw [hq, Bool.or_true]
  · have hn' : goodWord w = false := by simpa using hq
    unfold gw at hg
    rw [hn'] at hg
    cases w with
    | castable C T => rfl
    | arrayOver ty => exact absurd rfl (hn ty)
    | _ => exact Bool.noConfusion hg
theorem ev_thrown {p : Program} {R : Room} {s : State} {m : MethodId} {below : List Frame} {meth : Method} {c : Code} {H : Heap} {locs : List Loc} {cells slots : Nat} {ad ad0 : Nat → Nat → Nat} {h0 : ev_H} {x : Nat} (hC : ev_C E M p R s m meth c H locs cells slots ad ad0 h h0) (hx5 : x < 5) (hZ : cZ h < ZM) (kk : P (.inr x) (nx h))
    (U : State) (ce : Cell) (u1 : U.status = .running) (u2 : Ended U below (.threw H.size)) (u3 : s.WarmedH U.vm) (u4 : s.sameButNew ({ U with vm := s.vm } : State) locs (cells + 1) (slots + 6)) (u5 : U.heap.size = H.size + 1) (u6 : ∀ q : Nat, q < H.size → U.heap[q]? = H[q]?) (u7 : U.heap[H.size]? = some ce) (u8 : ce.vm = .none) (u9 : s.vm.findClass (xN x) = some ce.cls) : ev_QE E s below ad0 h0 P U := by
  have z1 := hC.2.2.2.1
  have z2 := hC.2.2.2.2.1
  have z3 := hC.2.2.2.2.2.1
  refine ⟨_, u1, u2, .inr x, nx h, ad, u3, ⟨locs, u4.mono (by omega) (by omega), hC.2.2.2.2.2.2.1⟩, hC.2.2.1.thr1 hZ u5 u6, hC.2.2.2.2.2.2.2.tr xt_nx, ⟨hx5, H.size, ce, rfl, u7, u8, u9⟩, kk⟩
theorem Ev_throw {ik is ic x : Nat} {text : String} (d0 : decode (mB M) pc = .ok (.new ik, 3)) (d3 : decode (mB M) (pc + 3) = .ok (.dup, 1)) (d4 : decode (mB M) (pc + 4) = .ok (.ldc is, 2)) (d6 : decode (mB M) (pc + 6) = .ok (.invokespecial ic, 3)) (d9 : decode (mB M) (pc + 9) = .ok (.athrow, 1)) (hm : mH M = []) (hdp : Nat.ble 4 (mD M) = true) (ht : thr (mY M).cls ik is ic text x) (hw : Nat.ble (wt st) 8 = true) (hZ : cZ h < ZM) (kk : P (.inr x) (nx h)) : Ev E M pc ls st h P := by
  intro p e R s m args below meth c H locs cells slots lsA ad ad0 h0 hC hL hS
  obtain ⟨t1, t2, t3, t4, t5, t6, t7, t8⟩ := ht
  obtain ⟨sa, hstr⟩ := hC.1.2.2.2.2.2.2.2.1 _ _ _ t4
  obtain ⟨rc, rs⟩ := ev_room hC hZ (N := 6) (by decide)
  have i9 := hC.wm
  have i10 := hC.2.1.2.2.2.2.2.2.2.2.2.1
  have i12 := hC.2.1.2.2.2.2.2.2.2.2.2.2.2.1
  have i13 := hC.2.1.2.2.2.2.2.2.2.2.2.2.2.2.1
  have hd4 : 4 ≤ mD M := by simpa using hdp
  have hw8 : wt st ≤ 8 := by simpa using hw
  have htab : c.exceptionTable.toList = tableOf (mH M) := hC.2.1.2.2.2.2.2.2.2.1
  refine ev_thrS (A := fun q => eZ E ≤ q) (names := xS x) hC.ex hC.cd hC.1.1 hC.own t6 t7 (hC.w t2 args) (hC.w t3 args) (vk_R.warm i9 hstr) (fun w hw => hC.w (t5 w hw) args) (fun w hw => ?_) (vx_Zq.moved i9.alike (hC.1.2.2.2.2.2.1.kept fun a _ hA => i10 a (Nat.not_le.mp hA))) (vx_Zq.moved i9.alike (hC.1.2.2.2.2.2.2.1.kept fun a _ hA => i10 a (Nat.not_le.mp hA))) hC.old (hL.sz.trans hC.ml.symm) d0 d3 d4 d6 d9 (fun z hz => by rw [htab, hm] at hz; exact nomatch hz) ?_ ?_ rc rs hC.2.1.2.2.2.2.2.2.1 (fun U ce u1 u2 u3 u4 u5 u6 u7 u8 u9 => ev_thrown hC t1 hZ kk U ce u1 u2 u3 u4 u5 u6 u7 u8 u9)
  · have hg : gw w = true := by
      rcases List.mem_cons.mp hw with rfl | hw
      · exact t2.2
      · rcases List.mem_cons.mp hw with rfl | hw
        · exact t3.2
        · exact (t5 w hw).2
    exact gw_ot hg (fun ty e => by
      subst e
      rcases List.mem_cons.mp hw with z | hw
      · cases z
      · rcases List.mem_cons.mp hw with z | hw
        · cases z
        · exact t8 ty hw)
  · show 2 + 3 < R.frames
    omega
  · rw [cv_wt]
    show wt st + (13 * (2 + 1) + 43) ≤ R.locals
    omega
theorem Ev_throwW {ik is ic x : Nat} {text : String} (d0 : decode (mB M) pc = .ok (.new ik, 3)) (d3 : decode (mB M) (pc + 3) = .ok (.dup, 1)) (d4 : decode (mB M) (pc + 4) = .ok (.ldc_w is, 3)) (d7 : decode (mB M) (pc + 7) = .ok (.invokespecial ic, 3)) (d10 : decode (mB M) (pc + 10) = .ok (.athrow, 1)) (hm : mH M = []) (hdp : Nat.ble 4 (mD M) = true) (ht : thr (mY M).cls ik is ic text x) (hw : Nat.ble (wt st) 8 = true) (hZ : cZ h < ZM) (kk : P (.inr x) (nx h)) : Ev E M pc ls st h P := by
  intro p e R s m args below meth c H locs cells slots lsA ad ad0 h0 hC hL hS
  obtain ⟨t1, t2, t3, t4, t5, t6, t7, t8⟩ := ht
  obtain ⟨sa, hstr⟩ := hC.1.2.2.2.2.2.2.2.1 _ _ _ t4
  obtain ⟨rc, rs⟩ := ev_room hC hZ (N := 6) (by decide)
  have i9 := hC.wm
  have i10 := hC.2.1.2.2.2.2.2.2.2.2.2.1
  have i12 := hC.2.1.2.2.2.2.2.2.2.2.2.2.2.1
  have i13 := hC.2.1.2.2.2.2.2.2.2.2.2.2.2.2.1
  have hd4 : 4 ≤ mD M := by simpa using hdp
  have hw8 : wt st ≤ 8 := by simpa using hw
  have htab : c.exceptionTable.toList = tableOf (mH M) := hC.2.1.2.2.2.2.2.2.2.1
  refine ev_thrW (A := fun q => eZ E ≤ q) (names := xS x) hC.ex hC.cd hC.1.1 hC.own t6 t7 (hC.w t2 args) (hC.w t3 args) (vk_R.warm i9 hstr) (fun w hw => hC.w (t5 w hw) args) (fun w hw => ?_) (vx_Zq.moved i9.alike (hC.1.2.2.2.2.2.1.kept fun a _ hA => i10 a (Nat.not_le.mp hA))) (vx_Zq.moved i9.alike (hC.1.2.2.2.2.2.2.1.kept fun a _ hA => i10 a (Nat.not_le.mp hA))) hC.old (hL.sz.trans hC.ml.symm) d0 d3 d4 d7 d10 (fun z hz => by rw [htab, hm] at hz; exact nomatch hz) ?_ ?_ rc rs hC.2.1.2.2.2.2.2.2.1 (fun U ce u1 u2 u3 u4 u5 u6 u7 u8 u9 => ev_thrown hC t1 hZ kk U ce u1 u2 u3 u4 u5 u6 u7 u8 u9)
  · have hg : gw w = true := by
      rcases List.mem_cons.mp hw with rfl | hw
      · exact t2.2
      · rcases List.mem_cons.mp hw with rfl | hw
        · exact t3.2
        · exact (t5 w hw).2
    exact gw_ot hg (fun ty e => by
      subst e
      rcases List.mem_cons.mp hw with z | hw
      · cases z
      · rcases List.mem_cons.mp hw with z | hw
        · cases z
        · exact t8 ty hw)
  · show 2 + 3 < R.frames
    omega
  · rw [cv_wt]
    show wt st + (13 * (2 + 1) + 43) ≤ R.locals
    omega
end EvK
end
