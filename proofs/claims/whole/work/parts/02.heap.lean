/-! A program logic over W: 'Ev E M pc ls st h P': from pc of method M, with locals ls, stack st and the run's heap h, the machine comes to the method's end, with a result and a heap of which P holds. -/
abbrev ev_V : Type := Option (Nat × Nat) ⊕ (Int32 ⊕ Int64)
abbrev vN : ev_V := Sum.inl none
abbrev vR (k i : Nat) : ev_V := Sum.inl (some (k, i))
abbrev vI (x : Int32) : ev_V := Sum.inr (Sum.inl x)
abbrev vL (x : Int64) : ev_V := Sum.inr (Sum.inr x)
/-- ints of cells, references of cells, longs of cells (by kind, number, place); counts: fixed cells, units, patients, their arrays; all cells made -/
abbrev ev_H : Type := (Nat → Nat → Nat → Int32) × (Nat → Nat → Nat → ev_V) × (Nat → Nat → Nat → Int64) × Nat × Nat × Nat × Nat × Nat
def gI (h : ev_H) (k i j : Nat) : Int32 := h.1 k i j
def gR (h : ev_H) (k i j : Nat) : ev_V := h.2.1 k i j
def gL (h : ev_H) (k i j : Nat) : Int64 := h.2.2.1 k i j
def cF (h : ev_H) : Nat := h.2.2.2.1
def cU (h : ev_H) : Nat := h.2.2.2.2.1
def cP (h : ev_H) : Nat := h.2.2.2.2.2.1
def cN (h : ev_H) : Nat := h.2.2.2.2.2.2.1
def cZ (h : ev_H) : Nat := h.2.2.2.2.2.2.2
def u3 {α : Type} (f : Nat → Nat → Nat → α) (a b c : Nat) (v : α) : Nat → Nat → Nat → α := fun x y z => if x = a ∧ y = b ∧ z = c then v else f x y z
def z2 {α : Type} (f : Nat → Nat → Nat → α) (a b : Nat) (v : α) : Nat → Nat → Nat → α := fun x y z => if x = a ∧ y = b then v else f x y z
def sI (h : ev_H) (k i j : Nat) (v : Int32) : ev_H := (u3 h.1 k i j v, h.2)
def sR (h : ev_H) (k i j : Nat) (v : ev_V) : ev_H := (h.1, u3 h.2.1 k i j v, h.2.2)
def sL (h : ev_H) (k i j : Nat) (v : Int64) : ev_H := (h.1, h.2.1, u3 h.2.2.1 k i j v, h.2.2.2)
def cnt (h : ev_H) (k : Nat) : Nat := cond (Nat.beq k 0) (cF h) (cond (Nat.beq k 1) (cU h) (cond (Nat.beq k 2) (cP h) (cN h)))
def b1 (b : Bool) : Nat := cond b 1 0
/-- a new cell of kind k -/
def nw (h : ev_H) (k : Nat) : ev_H := (z2 h.1 k (cnt h k) 0, z2 h.2.1 k (cnt h k) vN, z2 h.2.2.1 k (cnt h k) 0, cF h + b1 (Nat.beq k 0), cU h + b1 (Nat.beq k 1), cP h + b1 (Nat.beq k 2), cN h + b1 (Nat.beq k 3), cZ h + 1)
/-- a cell more that nobody names -/
def nx (h : ev_H) : ev_H := (h.1, h.2.1, h.2.2.1, cF h, cU h, cP h, cN h, cZ h + 1)
def lvs (h : ev_H) (k i : Nat) : Prop := k = 4 ∨ (k = 5 ∧ i < 3) ∨ (k < 4 ∧ i < cnt h k)
def lvV (h : ev_H) (v : ev_V) : Prop := match v with
  | .inl (some (k, i)) => lvs h k i
  | _ => True
def lvS (h : ev_H) : List ev_V → Prop
  | [] => True
  | v :: t => lvV h v ∧ lvS h t
def cv (ad : Nat → Nat → Nat) (v : ev_V) : Value := match v with
  | .inl none => .null
  | .inl (some (k, i)) => if k = 4 then .ref i else .ref (ad k i)
  | .inr (.inl x) => .int x
  | .inr (.inr x) => .long x
theorem lvS_1 {h : ev_H} {v : ev_V} {t : List ev_V} (q : lvS h (v :: t)) : lvV h v := And.left q
theorem lvS_2 {h : ev_H} {v : ev_V} {t : List ev_V} (q : lvS h (v :: t)) : lvS h t := And.right q
theorem lvS_c {h : ev_H} {v : ev_V} {t : List ev_V} (a : lvV h v) (b : lvS h t) : lvS h (v :: t) := And.intro a b
theorem lvS_i {h : ev_H} {x : Int32} {t : List ev_V} (b : lvS h t) : lvS h (vI x :: t) := And.intro trivial b
theorem lvS_l {h : ev_H} {x : Int64} {t : List ev_V} (b : lvS h t) : lvS h (vL x :: t) := And.intro trivial b
/-- what may be read of h' as it was of h: the live names, and where they lie -/
def xt (ad : Nat → Nat → Nat) (h : ev_H) (ad' : Nat → Nat → Nat) (h' : ev_H) : Prop := ∀ k i, lvs h k i → lvs h' k i ∧ (k ≠ 4 → ad' k i = ad k i)
theorem xt.rf {ad : Nat → Nat → Nat} {h : ev_H} : xt ad h ad h := fun _ _ q => ⟨q, fun _ => rfl⟩
theorem xt.tr {ad ad' ad2 : Nat → Nat → Nat} {h h' h2 : ev_H} (a : xt ad h ad' h') (b : xt ad' h' ad2 h2) : xt ad h ad2 h2 := fun k i q => ⟨(b k i (a k i q).1).1, fun n => ((b k i (a k i q).1).2 n).trans ((a k i q).2 n)⟩
theorem xt.V {ad ad' : Nat → Nat → Nat} {h h' : ev_H} (a : xt ad h ad' h') {v : ev_V} (q : lvV h v) : lvV h' v ∧ cv ad' v = cv ad v := by
  rcases v with (_ | ⟨k, i⟩) | (x | x)
  · exact ⟨trivial, rfl⟩
  · refine ⟨(a k i q).1, ?_⟩
    show (if k = 4 then Value.ref i else Value.ref (ad' k i)) = (if k = 4 then Value.ref i else Value.ref (ad k i))
    by_cases h4 : k = 4
    · rw [if_pos h4, if_pos h4]
    · rw [if_neg h4, if_neg h4, (a k i q).2 h4]
  · exact ⟨trivial, rfl⟩
  · exact ⟨trivial, rfl⟩
theorem xt.S0 {ad ad' : Nat → Nat → Nat} {h h' : ev_H} (a : xt ad h ad' h') : ∀ (st : List ev_V), lvS h st → lvS h' st ∧ st.map (cv ad') = st.map (cv ad)
  | [], _ => ⟨trivial, rfl⟩
  | v :: t, q => by
    obtain ⟨h1, h2⟩ := a.V (lvS_1 q)
    obtain ⟨h3, h4⟩ := xt.S0 a t (lvS_2 q)
    exact ⟨lvS_c h1 h3, by rw [List.map_cons, List.map_cons, h2, h4]⟩
theorem xt.S {ad ad' : Nat → Nat → Nat} {h h' : ev_H} (a : xt ad h ad' h') {st : List ev_V} (q : lvS h st) : lvS h' st ∧ st.map (cv ad') = st.map (cv ad) := xt.S0 a st q
theorem nbq {i j : Nat} (q : ¬ i = j) : Nat.beq i j = false := by
  cases hb : Nat.beq i j
  · rfl
  · exact absurd (Nat.eq_of_beq_eq_true hb) q
theorem nbq' {i j : Nat} (q : Nat.beq i j = false) : ¬ i = j := fun e => by rw [e, Nat.beq_refl] at q; cases q
def lget : List (Nat × ev_V) → Nat → Option ev_V
  | [], _ => none
  | (j, w) :: t, i => cond (Nat.beq j i) (some w) (lget t i)
def lset : List (Nat × ev_V) → Nat → ev_V → List (Nat × ev_V)
  | [], i, v => [(i, v)]
  | (j, w) :: t, i, v => cond (Nat.beq j i) ((i, v) :: t) (cond (Nat.blt i j) ((i, v) :: (j, w) :: t) ((j, w) :: lset t i v))
theorem lget_lset : ∀ (l : List (Nat × ev_V)) (i j : Nat) (v w : ev_V), lget (lset l i v) j = some w → (j = i ∧ w = v) ∨ (j ≠ i ∧ lget l j = some w)
  | [], i, j, v, w, q => by
    by_cases h : i = j
    · subst h
      have : some v = some w := by simpa [lset, lget] using q
      exact Or.inl ⟨rfl, (Option.some.inj this).symm⟩
    · have : Nat.beq i j = false := nbq h
      simp [lset, lget, this] at q
  | (a, b) :: t, i, j, v, w, q => by
    by_cases h : a = i
    · subst h
      have e1 : lset ((a, b) :: t) a v = (a, v) :: t := by simp [lset]
      rw [e1] at q
      by_cases h2 : a = j
      · subst h2
        have : some v = some w := by simpa [lget] using q
        exact Or.inl ⟨rfl, (Option.some.inj this).symm⟩
      · have e2 : Nat.beq a j = false := nbq h2
        exact Or.inr ⟨fun z => h2 z.symm, by simpa [lget, e2] using q⟩
    · have e1 : Nat.beq a i = false := nbq h
      by_cases h1 : i < a
      · have e2 : Nat.blt i a = true := by simpa [Nat.blt_eq] using h1
        have e3 : lset ((a, b) :: t) i v = (i, v) :: (a, b) :: t := by simp [lset, e1, e2]
        rw [e3] at q
        by_cases h2 : i = j
        · subst h2
          have : some v = some w := by simpa [lget] using q
          exact Or.inl ⟨rfl, (Option.some.inj this).symm⟩
        · have e4 : Nat.beq i j = false := nbq h2
          refine Or.inr ⟨fun z => h2 z.symm, ?_⟩
          have e5 : lget ((i, v) :: (a, b) :: t) j = lget ((a, b) :: t) j := by
            show cond (Nat.beq i j) _ _ = _
            rw [e4]; rfl
          rw [← e5]; exact q
      · have e2 : Nat.blt i a = false := by
          cases hb : Nat.blt i a
          · rfl
          · exact absurd (by simpa [Nat.blt_eq] using hb) h1
        have e3 : lset ((a, b) :: t) i v = (a, b) :: lset t i v := by simp [lset, e1, e2]
        rw [e3] at q
        by_cases h2 : a = j
        · subst h2
          have : some b = some w := by simpa [lget] using q
          refine Or.inr ⟨h, ?_⟩
          rw [← this]
          simp [lget]
        · have e4 : Nat.beq a j = false := nbq h2
          have q' : lget (lset t i v) j = some w := by
            have e5 : lget ((a, b) :: lset t i v) j = lget (lset t i v) j := by
              show cond (Nat.beq a j) _ _ = _
              rw [e4]; rfl
            rw [← e5]; exact q
          rcases lget_lset t i j v w q' with z | ⟨z1, z2⟩
          · exact Or.inl z
          · refine Or.inr ⟨z1, ?_⟩
            show cond (Nat.beq a j) _ _ = _
            rw [e4]; exact z2
/-- the locals -/
def ev_LR (ad : Nat → Nat → Nat) (h : ev_H) (n : Nat) (l : List (Nat × ev_V)) (A : Array Slot) : Prop :=
  ∃ lv, lv_has A n lv ∧ ∀ i v, lget l i = some v → (i, cv ad v) ∈ lv ∧ lvV h v ∧ (cv ad v).category = 1
theorem ev_LR.at {ad : Nat → Nat → Nat} {h : ev_H} {n : Nat} {l : List (Nat × ev_V)} {A : Array Slot} (q : ev_LR ad h n l A) {i : Nat} {v : ev_V} (hl : lget l i = some v) : A[i]? = some (.val (cv ad v)) ∧ lvV h v := by
  obtain ⟨lv, h1, h2⟩ := q
  exact ⟨h1.2.2 _ (h2 i v hl).1, (h2 i v hl).2.1⟩
theorem ev_LR.mv {ad ad' : Nat → Nat → Nat} {h h' : ev_H} {n : Nat} {l : List (Nat × ev_V)} {A : Array Slot} (q : ev_LR ad h n l A) (x : xt ad h ad' h') : ev_LR ad' h' n l A := by
  obtain ⟨lv, h1, h2⟩ := q
  refine ⟨lv, h1, fun i v hl => ?_⟩
  obtain ⟨a1, a2, a3⟩ := h2 i v hl
  obtain ⟨b1, b2⟩ := x.V a2
  rw [b2]
  exact ⟨a1, b1, a3⟩
theorem ev_LR.sz {ad : Nat → Nat → Nat} {h : ev_H} {n : Nat} {l : List (Nat × ev_V)} {A : Array Slot} (q : ev_LR ad h n l A) : A.size = n := by
  obtain ⟨lv, h1, -⟩ := q
  exact h1.1
/-- fewer locals -/
theorem ev_LR.sub {ad : Nat → Nat → Nat} {h : ev_H} {n : Nat} {l l' : List (Nat × ev_V)} {A : Array Slot} (q : ev_LR ad h n l A) (hs : ∀ i v, lget l' i = some v → lget l i = some v) : ev_LR ad h n l' A := by
  obtain ⟨lv, h1, h2⟩ := q
  exact ⟨lv, h1, fun i v hl => h2 i v (hs i v hl)⟩
theorem ev_LR.set {ad : Nat → Nat → Nat} {h : ev_H} {n : Nat} {l : List (Nat × ev_V)} {A : Array Slot} (q : ev_LR ad h n l A) {i : Nat} (hi : i < n) {v : ev_V} (hv : lvV h v) (hc : (cv ad v).category = 1) :
    ∃ A', storeLocals A i (cv ad v) = some A' ∧ ev_LR ad h n (lset l i v) A' := by
  obtain ⟨lv, h1, h2⟩ := q
  obtain ⟨A', e1, e2⟩ := lv_store1 h1 hi hc
  refine ⟨A', e1, _, e2, fun j w hw => ?_⟩
  rcases lget_lset l i j v w hw with ⟨rfl, rfl⟩ | ⟨z1, z2⟩
  · exact ⟨List.mem_cons_self, hv, hc⟩
  · obtain ⟨a1, a2, a3⟩ := h2 j w z2
    refine ⟨List.mem_cons_of_mem _ (List.mem_filter.mpr ⟨a1, ?_⟩), a2, a3⟩
    simp [z1, a3]
