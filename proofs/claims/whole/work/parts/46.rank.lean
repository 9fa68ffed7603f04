/-! ranking: an insertion sort against counting -/
def ct : Nat → (Nat → Bool) → Nat
  | 0, _ => 0
  | n + 1, p => ct n p + (if p n then 1 else 0)
theorem ct_cg {p q : Nat → Bool} : ∀ n, (∀ v, v < n → p v = q v) → ct n p = ct n q
  | 0, _ => rfl
  | n + 1, e => by
    rw [ct, ct, ct_cg n (fun v hv => e v (by omega)), e n (by omega)]
theorem ct_le {p : Nat → Bool} : ∀ n, ct n p ≤ n
  | 0 => Nat.le_refl 0
  | n + 1 => by
    rw [ct]
    have := ct_le (p := p) n
    split <;> omega
theorem ct_lt {i : Nat} : ∀ n, ct n (fun j => decide (j < i)) = if i ≤ n then i else n
  | 0 => by
    rw [ct]
    split <;> omega
  | n + 1 => by
    rw [ct, ct_lt n]
    by_cases a : n < i
    · have b : decide (n < i) = true := decide_eq_true a
      rw [b, if_pos rfl, if_neg (show ¬ i ≤ n by omega)]
      by_cases z : i ≤ n + 1
      · rw [if_pos z]
        omega
      · rw [if_neg z]
    · have b : decide (n < i) = false := decide_eq_false a
      rw [b, if_pos (show i ≤ n by omega), if_pos (show i ≤ n + 1 by omega)]
      rfl
theorem ct_ins {f f' : Nat → Bool} {m : Nat} (a : ∀ j, j < m → f' j = f j) : ∀ s, m ≤ s → (∀ j, m ≤ j → j < s → f' (j + 1) = f j) → ct (s + 1) f' = ct s f + (if f' m then 1 else 0)
  | 0, hs, b => by
    have e : m = 0 := by omega
    rw [e]
    rfl
  | s + 1, hs, b => by
    by_cases z : m = s + 1
    · rw [ct, ct_cg (s + 1) (q := f) (fun v hv => a v (by omega)), z]
    · rw [ct, ct_ins a s (by omega) (fun j x y => b j x (by omega)), b s (by omega) (by omega), ct]
      omega
/-- where the loop of insertion stops, and what it has moved -/
theorem insL_sp {x : Int32} : ∀ (a : Nat) (h : ev_H), (insL x a h).1 ≤ a ∧ (insL x a h).2.2 = h.2 ∧ (∀ k i j, ¬ (k = 0 ∧ (i = 4 ∨ i = 5)) → gI (insL x a h).2 k i j = gI h k i j) ∧ (∀ i j, i = 4 ∨ i = 5 → (j < (insL x a h).1 ∨ a < j) → gI (insL x a h).2 0 i j = gI h 0 i j) ∧ (∀ i j, i = 4 ∨ i = 5 → (insL x a h).1 ≤ j → j < a → gI (insL x a h).2 0 i (j + 1) = gI h 0 i j) ∧ (∀ j, (insL x a h).1 ≤ j → j < a → ¬ gI h 0 5 j ≤ x) ∧ (∀ m, (insL x a h).1 = m + 1 → gI h 0 5 m ≤ x)
  | 0, h => ⟨Nat.le_refl 0, rfl, fun _ _ _ _ => rfl, fun _ _ _ _ => rfl, fun _ _ _ _ z => absurd z (Nat.not_lt_zero _), fun _ _ z => absurd z (Nat.not_lt_zero _), fun _ z => absurd z (by rw [insL]; exact fun w => Nat.noConfusion w)⟩
  | a + 1, h => by
    by_cases q : gI h 0 5 a ≤ x
    · rw [insL, if_pos q]
      refine ⟨Nat.le_refl _, rfl, fun _ _ _ _ => rfl, fun _ _ _ _ => rfl, fun i j _ z w => by omega, fun j z w => by omega, fun m e => ?_⟩
      have e' : a + 1 = m + 1 := e
      have e2 : a = m := by omega
      rw [← e2]
      exact q
    · rw [insL, if_neg q]
      have e5 : gI (sI h 0 4 (a + 1) (gI h 0 4 a)) 0 5 a = gI h 0 5 a := gI_ne (by omega)
      rw [e5]
      obtain ⟨i1, i2, i3, i4, i5, i6, i7⟩ := insL_sp (x := x) a (sI (sI h 0 4 (a + 1) (gI h 0 4 a)) 0 5 (a + 1) (gI h 0 5 a))
      have lo : ∀ i j, i = 4 ∨ i = 5 → j ≠ a + 1 → gI (sI (sI h 0 4 (a + 1) (gI h 0 4 a)) 0 5 (a + 1) (gI h 0 5 a)) 0 i j = gI h 0 i j := fun i j _ z => by rw [gI_ne (by omega), gI_ne (by omega)]
      refine ⟨by omega, i2, fun k i j z => ?_, fun i j hi z => ?_, fun i j hi z w => ?_, fun j z w => ?_, fun m e => ?_⟩
      · rw [i3 k i j z, gI_ne (by omega), gI_ne (by omega)]
      · rw [i4 i j hi (by omega), lo i j hi (by omega)]
      · by_cases y : j = a
        · rw [y, i4 i (a + 1) hi (by omega)]
          rcases hi with rfl | rfl
          · rw [gI_ne (by omega), gI_eq ⟨rfl, rfl, rfl⟩]
          · rw [gI_eq ⟨rfl, rfl, rfl⟩]
        · rw [i5 i j hi z (by omega), lo i j hi (by omega)]
      · by_cases y : j = a
        · rw [y]; exact q
        · have := i6 j z (by omega)
          rw [lo 5 j (Or.inr rfl) (by omega)] at this
          exact this
      · have := i7 m e
        rw [lo 5 m (Or.inr rfl) (by omega)] at this
        exact this
/-- those chosen among the first n lie in the ranking, by key, then by number -/
def Rk (hh h : ev_H) (n : Nat) (sel : Nat → Bool) (key : Nat → Int32) : Prop :=
  sm hh h ∧ cZ hh = cZ h ∧ ∃ (s : Nat) (N : Nat → Nat), s ≤ n ∧ gI hh 0 3 2 = nI s ∧ (∀ j, j < s → gI hh 0 4 j = nI (N j) ∧ gI hh 0 5 j = key (N j) ∧ N j < n ∧ sel (N j) = true) ∧
    (∀ i j, i < j → j < s → key (N i) < key (N j) ∨ (key (N i) = key (N j) ∧ N i < N j)) ∧ (∀ p : Nat → Bool, ct n (fun v => sel v && p v) = ct s (fun j => p (N j)))
theorem Rk_0 {h : ev_H} {sel : Nat → Bool} {key : Nat → Int32} : Rk (f_RK_empty h) h 0 sel key :=
  ⟨sm_sI (by unfold vis; omega), rfl, 0, fun _ => 0, Nat.le_refl 0, gI_eq ⟨rfl, rfl, rfl⟩, fun j z => absurd z (Nat.not_lt_zero _), fun i j _ z => absurd z (Nat.not_lt_zero _), fun _ => rfl⟩
theorem Rk_n {hh h : ev_H} {n : Nat} {sel : Nat → Bool} {key : Nat → Int32} (R : Rk hh h n sel key) (q : sel n = false) : Rk hh h (n + 1) sel key := by
  obtain ⟨r1, r2, s, N, r3, r4, r5, r6, r7⟩ := R
  refine ⟨r1, r2, s, N, by omega, r4, fun j hj => ?_, r6, fun p => ?_⟩
  · obtain ⟨a, b, c, d⟩ := r5 j hj
    exact ⟨a, b, by omega, d⟩
  · rw [ct, r7 p, q]
    rfl
theorem Rk_y {hh h : ev_H} {n : Nat} {sel : Nat → Bool} {key : Nat → Int32} (R : Rk hh h n sel key) (hn : n < 48) (q : sel n = true) : Rk (f_RK_insert hh (nI n) (key n)) h (n + 1) sel key := by
  obtain ⟨r1, r2, s, N, r3, r4, r5, r6, r7⟩ := R
  have cn : (nI s).toNatClampNeg = s := nI_clamp (by omega)
  obtain ⟨i1, i2, i3, i4, i5, i6, i7⟩ := insL_sp (x := key n) s hh
  have e : f_RK_insert hh (nI n) (key n) = insE (nI n) (key n) (insL (key n) s hh) := by
    unfold f_RK_insert
    rw [r4, cn]
  rw [e]
  have sz : gI (sI (sI (insL (key n) s hh).2 0 4 (insL (key n) s hh).1 (nI n)) 0 5 (insL (key n) s hh).1 (key n)) 0 3 2 = nI s := by
    rw [gI_ne (by omega), gI_ne (by omega), i3 0 3 2 (by omega), r4]
  unfold insE
  rw [sz, nI_1]
  generalize hm : (insL (key n) s hh).1 = m at *
  have rd : ∀ i j, i = 4 ∨ i = 5 → j ≠ m → gI (sI (sI (sI (insL (key n) s hh).2 0 4 m (nI n)) 0 5 m (key n)) 0 3 2 (nI (s + 1))) 0 i j = gI (insL (key n) s hh).2 0 i j := fun i j hi z => by rw [gI_ne (by omega), gI_ne (by omega), gI_ne (by omega)]
  have r4m : gI (sI (sI (sI (insL (key n) s hh).2 0 4 m (nI n)) 0 5 m (key n)) 0 3 2 (nI (s + 1))) 0 4 m = nI n := by rw [gI_ne (by omega), gI_ne (by omega), gI_eq ⟨rfl, rfl, rfl⟩]
  have r5m : gI (sI (sI (sI (insL (key n) s hh).2 0 4 m (nI n)) 0 5 m (key n)) 0 3 2 (nI (s + 1))) 0 5 m = key n := by rw [gI_ne (by omega), gI_eq ⟨rfl, rfl, rfl⟩]
  refine ⟨?_, ?_, s + 1, fun j => if j < m then N j else (if j = m then n else N (j - 1)), by omega, gI_eq ⟨rfl, rfl, rfl⟩, fun j hj => ?_, fun i j hij hj => ?_, fun p => ?_⟩
  · refine sm_tr ⟨fun k i j v => ?_, fun k i j => ?_, ?_⟩ r1
    · unfold vis at v
      rw [gI_ne (by omega), gI_ne (by omega), gI_ne (by omega), i3 k i j (by omega)]
    · show gR (insL (key n) s hh).2 k i j = _
      unfold gR
      rw [i2]
    · show cs (insL (key n) s hh).2 = _
      unfold cs cF cU cP cN
      rw [i2]
  · rw [← r2]
    show cZ (insL (key n) s hh).2 = _
    unfold cZ
    rw [i2]
  · by_cases a : j < m
    · simp only [if_pos a]
      obtain ⟨b1, b2, b3, b4⟩ := r5 j (by omega)
      rw [rd 4 j (Or.inl rfl) (by omega), rd 5 j (Or.inr rfl) (by omega), i4 4 j (Or.inl rfl) (by omega), i4 5 j (Or.inr rfl) (by omega)]
      exact ⟨b1, b2, by omega, b4⟩
    · by_cases b : j = m
      · simp only [if_neg a, if_pos b]
        rw [b, r4m, r5m]
        exact ⟨rfl, rfl, by omega, q⟩
      · simp only [if_neg a, if_neg b]
        obtain ⟨j', rfl⟩ : ∃ j', j = j' + 1 := ⟨j - 1, by omega⟩
        obtain ⟨b1, b2, b3, b4⟩ := r5 j' (by omega)
        rw [rd 4 _ (Or.inl rfl) (by omega), rd 5 _ (Or.inr rfl) (by omega), i5 4 j' (Or.inl rfl) (by omega) (by omega), i5 5 j' (Or.inr rfl) (by omega) (by omega)]
        exact ⟨b1, b2, by show N j' < n + 1; omega, b4⟩
  · have low : ∀ i, i < m → key (N i) ≤ key n := fun i hi => by
      obtain ⟨m', rfl⟩ : ∃ m', m = m' + 1 := ⟨m - 1, by omega⟩
      have z := i7 m' rfl
      rw [(r5 m' (by omega)).2.1] at z
      by_cases y : i = m'
      · rw [y]; exact z
      · rcases r6 i m' (by omega) (by omega) with w | w
        · exact Int32.le_trans (Int32.le_of_lt w) z
        · rw [w.1]; exact z
    have hig : ∀ i, m ≤ i → i < s → key n < key (N i) := fun i hi hs => by
      have z := i6 i hi hs
      rw [(r5 i hs).2.1] at z
      exact Int32.not_le.mp z
    by_cases a : j < m
    · simp only [if_pos a, if_pos (show i < m by omega)]
      exact r6 i j hij (by omega)
    · by_cases b : j = m
      · simp only [if_neg a, if_pos b, if_pos (show i < m by omega)]
        have z := low i (by omega)
        by_cases y : key (N i) = key n
        · exact Or.inr ⟨y, (r5 i (by omega)).2.2.1⟩
        · exact Or.inl (Int32.lt_of_le_of_ne z y)
      · simp only [if_neg a, if_neg b]
        by_cases c1 : i < m
        · simp only [if_pos c1]
          exact r6 i (j - 1) (by omega) (by omega)
        · by_cases c2 : i = m
          · simp only [if_neg c1, if_pos c2]
            exact Or.inl (hig (j - 1) (by omega) (by omega))
          · simp only [if_neg c1, if_neg c2]
            exact r6 (i - 1) (j - 1) (by omega) (by omega)
  · have z := ct_ins (f := fun j => p (N j)) (f' := fun j => p (if j < m then N j else (if j = m then n else N (j - 1)))) (m := m) (fun j hj => by simp only [if_pos hj]) s i1 (fun j a b => by
      simp only [if_neg (show ¬ j + 1 < m by omega), if_neg (show ¬ j + 1 = m by omega), Nat.add_sub_cancel])
    rw [z, ct, r7 p, q]
    simp
