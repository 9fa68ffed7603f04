/-! rows that come out of others; loops; what is always referred to -/
def lin : List (Nat × ev_V) → List (Nat × ev_V) → Prop
  | [], _ => True
  | (i, v) :: t, ls => lget ls i = some v ∧ lin t ls
theorem lsub0 (ls : List (Nat × ev_V)) : ∀ (l : List (Nat × ev_V)), lin l ls → ∀ i v, lget l i = some v → lget ls i = some v
  | [], _, _, _, z => nomatch z
  | (j, w) :: t, q, i, v, z => by
    have q1 : lget ls j = some w := And.left q
    have q2 : lin t ls := And.right q
    by_cases hj : j = i
    · subst hj
      have e : lget ((j, w) :: t) j = some w := by
        show cond (Nat.beq j j) _ _ = _
        rw [Nat.beq_refl]; rfl
      rw [e] at z
      cases z
      exact q1
    · have e : lget ((j, w) :: t) i = lget t i := by
        show cond (Nat.beq j i) _ _ = _
        rw [nbq hj]; rfl
      rw [e] at z
      exact lsub0 ls t q2 i v z
theorem lsub {l ls : List (Nat × ev_V)} (q : lin l ls) : ∀ i v, lget l i = some v → lget ls i = some v := lsub0 ls l q
theorem nar_b {x : Int32} (q : x = 0 ∨ x = 1) : narrow .boolean (.int x) = .int x := by
  rcases q with rfl | rfl <;> rfl
section EvM
variable {E : ev_E} {M : ev_M} {pc : Nat} {ls : List (Nat × ev_V)} {st : List ev_V} {h : ev_H} {P : Option ev_V ⊕ Nat → ev_H → Prop}
theorem Ev_iushr {x y v : Int32} (hd : decode (mB M) pc = .ok (.iushr, 1)) (hv : (x.toUInt32 >>> (y &&& 31).toUInt32).toInt32 = v) (k : Ev E M (pc + 1) ls (vI v :: st) h P) : Ev E M pc ls (vI y :: vI x :: st) h P := by
  intro p e R s m args below meth c H locs cells slots lsA ad ad0 h0 hC hL hS
  exact lv_iushr hC.ex hC.cd hd hv (k p e R s m args below meth c H locs cells slots lsA ad ad0 h0 hC hL (lvS_i (lvS_2 (lvS_2 hS))))
/-- Math.min -/
theorem Ev_min {idx : Nat} {x y : Int32} (hd : decode (mB M) pc = .ok (.invokestatic idx, 3)) (hl : wd (.methodLink (mY M).cls idx Lib.Math.min.name)) (w1 : wd (.static Lib.Math.min.name)) (w2 : wd (.initialized "java/lang/Math")) (w3 : wd (.code Lib.Math.min.name Lib.Math.min.code 2 (some .int))) (hw : Nat.ble (wt st) 8 = true) (k : Ev E M (pc + 3) ls (vI (if y < x then y else x) :: st) h P) : Ev E M pc ls (vI y :: vI x :: st) h P := by
  intro p e R s m args below meth c H locs cells slots lsA ad ad0 h0 hC hL hS
  have i12 := hC.2.1.2.2.2.2.2.2.2.2.2.2.2.1
  have i13 := hC.2.1.2.2.2.2.2.2.2.2.2.2.2.2.1
  have i14 := hC.2.1.2.2.2.2.2.2.2.2.2.2.2.2.2.1
  have i15 := hC.2.1.2.2.2.2.2.2.2.2.2.2.2.2.2.2
  have r1 := hC.2.2.1.1
  have r2 := hC.2.2.1.2.1
  have z2 := hC.2.2.2.2.1
  have z3 := hC.2.2.2.2.2.1
  have hw8 : wt st ≤ 8 := by simpa using hw
  exact va_mmin hC.ex hC.cd (hC.ml.trans hL.sz.symm) hC.own (hC.w hl args) (hC.w w1 args) (hC.w w2 args) (hC.w w3 args) (by omega) (by rw [cv_wt]; omega) (by omega) (by omega) hd (k p e R s m args below meth c H locs cells slots lsA ad ad0 h0 hC hL (lvS_i (lvS_2 (lvS_2 hS))))
theorem Ev_tab {i : Nat} {x : Int32} (hd : decode (mB M) pc = .ok (.iaload, 1)) (hi : i = 1 ∨ i = 2) (h1 : ¬ x < 0) (h2 : x.toNatClampNeg < 4) (kk : Ev E M (pc + 1) ls (vI (tab i x.toNatClampNeg) :: st) h P) : Ev E M pc ls (vI x :: vR 5 i :: st) h P := by
  intro p e R s m args below meth c H locs cells slots lsA ad ad0 h0 hC hL hS
  obtain ⟨t1, t2, t3⟩ := hC.1.2.2.2.2.2.2.2.2.2
  have hb : Nat.blt i 3 = true := by rcases hi with rfl | rfl <;> rfl
  refine Ev_ialdO (x := x) (i := i) hd hb h1 ?_ ?_ p e R s m args below meth c H locs cells slots lsA ad ad0 h0 hC hL hS
  · rcases hi with rfl | rfl
    · rw [t1]; exact h2
    · rw [t2]; exact h2
  · have e : eX E i x.toNatClampNeg = tab i x.toNatClampNeg := by
      rcases hi with rfl | rfl
      · exact (t3 _ h2).1
      · exact (t3 _ h2).2
    rw [e]
    exact kk
/-- places by a number -/
theorem Ev_ialdJ {k i n j : Nat} {x : Int32} (hd : decode (mB M) pc = .ok (.iaload, 1)) (hk : Nat.blt k 4 = true) (hs : shp k i = (1, n)) (h1 : ¬ x < 0) (hj : x.toNatClampNeg = j) (h2 : j < n) (kk : Ev E M (pc + 1) ls (vI (gI h k i j) :: st) h P) : Ev E M pc ls (vI x :: vR k i :: st) h P := by
  subst hj
  exact Ev_iald hd hk hs h1 h2 kk
theorem Ev_iastJ {k i n j : Nat} {x v : Int32} (hd : decode (mB M) pc = .ok (.iastore, 1)) (hk : Nat.blt k 4 = true) (hs : shp k i = (1, n)) (h1 : ¬ x < 0) (hj : x.toNatClampNeg = j) (h2 : j < n) (kk : Ev E M (pc + 1) ls st (sI h k i j v) P) : Ev E M pc ls (vI v :: vI x :: vR k i :: st) h P := by
  subst hj
  exact Ev_iast hd hk hs h1 h2 kk
theorem Ev_aaldJ {k i t n j : Nat} {x : Int32} {v : ev_V} (hd : decode (mB M) pc = .ok (.aaload, 1)) (hk : Nat.blt k 4 = true) (hs : shp k i = (t, n)) (ht : t = 3 ∨ t = 4) (h1 : ¬ x < 0) (hj : x.toNatClampNeg = j) (h2 : j < n) (hv : gR h k i j = v) (kk : Ev E M (pc + 1) ls (v :: st) h P) : Ev E M pc ls (vI x :: vR k i :: st) h P := by
  subst hj
  exact Ev_aald hd hk hs ht h1 h2 hv kk
/-- a loop of n rounds -/
theorem Ev_for (n : Nat) (Ls : Nat → List (Nat × ev_V)) (Hs : Nat → ev_H) (step : ∀ a, a < n → Ev E M pc (Ls (a + 1)) [] (Hs (a + 1)) P → Ev E M pc (Ls a) [] (Hs a) P) (fin : Ev E M pc (Ls n) [] (Hs n) P) : Ev E M pc (Ls 0) [] (Hs 0) P := by
  have key : ∀ d, d ≤ n → Ev E M pc (Ls (n - d)) [] (Hs (n - d)) P := by
    intro d
    induction d with
    | zero => intro _; exact fin
    | succ d ih =>
      intro hd
      have e : n - (d + 1) + 1 = n - d := by omega
      refine step (n - (d + 1)) (by omega) ?_
      rw [e]
      exact ih (by omega)
  have := key n (Nat.le_refl _)
  rwa [Nat.sub_self] at this
end EvM
/-! numbers -/
theorem i_tn (x : Int32) : x.toNatClampNeg = x.toInt.toNat := rfl
theorem rk_b {x s : Int32} (q1 : ¬ x < 0) (q2 : ¬ s ≤ x) (hs : s ≤ 48) : x.toNatClampNeg < 48 := by
  rw [Int32.lt_iff_toInt_lt] at q1
  rw [Int32.le_iff_toInt_le] at q2 hs
  rw [i_tn]
  have e0 : (0 : Int32).toInt = 0 := by decide
  have e1 : (48 : Int32).toInt = 48 := by decide
  omega
/-- the references that never move once the objects stand -/
def rfs (h : ev_H) : Prop :=
  (gR h 0 0 0 = vR 0 1 ∧ gR h 0 0 1 = vR 0 2 ∧ gR h 0 0 2 = vR 0 3 ∧ gR h 0 3 0 = vR 0 4 ∧ gR h 0 3 1 = vR 0 5) ∧
  (∀ f, f < 14 → gR h 0 6 (f + 3) = vR 0 (f + 7)) ∧ (∀ f, f < 6 → gR h 0 6 (f + 20) = vR 0 (f + 21))
theorem rf_TB_0 {h : ev_H} (q : rfs h) : gR h 0 0 0 = vR 0 1 := q.1.1
theorem rf_TB_1 {h : ev_H} (q : rfs h) : gR h 0 0 1 = vR 0 2 := q.1.2.1
theorem rf_TB_2 {h : ev_H} (q : rfs h) : gR h 0 0 2 = vR 0 3 := q.1.2.2.1
theorem rf_RK_0 {h : ev_H} (q : rfs h) : gR h 0 3 0 = vR 0 4 := q.1.2.2.2.1
theorem rf_RK_1 {h : ev_H} (q : rfs h) : gR h 0 3 1 = vR 0 5 := q.1.2.2.2.2
theorem rf_MO_3 {h : ev_H} (q : rfs h) : gR h 0 6 3 = vR 0 7 := q.2.1 0 (by decide)
theorem rf_MO_4 {h : ev_H} (q : rfs h) : gR h 0 6 4 = vR 0 8 := q.2.1 1 (by decide)
theorem rf_MO_5 {h : ev_H} (q : rfs h) : gR h 0 6 5 = vR 0 9 := q.2.1 2 (by decide)
theorem rf_MO_6 {h : ev_H} (q : rfs h) : gR h 0 6 6 = vR 0 10 := q.2.1 3 (by decide)
theorem rf_MO_7 {h : ev_H} (q : rfs h) : gR h 0 6 7 = vR 0 11 := q.2.1 4 (by decide)
theorem rf_MO_8 {h : ev_H} (q : rfs h) : gR h 0 6 8 = vR 0 12 := q.2.1 5 (by decide)
theorem rf_MO_9 {h : ev_H} (q : rfs h) : gR h 0 6 9 = vR 0 13 := q.2.1 6 (by decide)
theorem rf_MO_10 {h : ev_H} (q : rfs h) : gR h 0 6 10 = vR 0 14 := q.2.1 7 (by decide)
theorem rf_MO_11 {h : ev_H} (q : rfs h) : gR h 0 6 11 = vR 0 15 := q.2.1 8 (by decide)
theorem rf_MO_12 {h : ev_H} (q : rfs h) : gR h 0 6 12 = vR 0 16 := q.2.1 9 (by decide)
theorem rf_MO_13 {h : ev_H} (q : rfs h) : gR h 0 6 13 = vR 0 17 := q.2.1 10 (by decide)
theorem rf_MO_14 {h : ev_H} (q : rfs h) : gR h 0 6 14 = vR 0 18 := q.2.1 11 (by decide)
theorem rf_MO_15 {h : ev_H} (q : rfs h) : gR h 0 6 15 = vR 0 19 := q.2.1 12 (by decide)
theorem rf_MO_16 {h : ev_H} (q : rfs h) : gR h 0 6 16 = vR 0 20 := q.2.1 13 (by decide)
theorem rf_MO_20 {h : ev_H} (q : rfs h) : gR h 0 6 20 = vR 0 21 := q.2.2 0 (by decide)
theorem rf_MO_21 {h : ev_H} (q : rfs h) : gR h 0 6 21 = vR 0 22 := q.2.2 1 (by decide)
theorem rf_MO_22 {h : ev_H} (q : rfs h) : gR h 0 6 22 = vR 0 23 := q.2.2 2 (by decide)
theorem rf_MO_23 {h : ev_H} (q : rfs h) : gR h 0 6 23 = vR 0 24 := q.2.2 3 (by decide)
theorem rf_MO_24 {h : ev_H} (q : rfs h) : gR h 0 6 24 = vR 0 25 := q.2.2 4 (by decide)
theorem rf_MO_25 {h : ev_H} (q : rfs h) : gR h 0 6 25 = vR 0 26 := q.2.2 5 (by decide)
