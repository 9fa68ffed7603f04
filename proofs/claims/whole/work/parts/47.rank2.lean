/-! the ranking's answer against the search by counting -/
theorem ct_ex {p : Nat → Bool} : ∀ n, ct n p ≠ 0 → ∃ v, v < n ∧ p v = true
  | 0, q => absurd rfl q
  | n + 1, q => by
    cases e : p n with
    | true => exact ⟨n, by omega, e⟩
    | false =>
      rw [ct, e] at q
      obtain ⟨v, a, b⟩ := ct_ex n q
      exact ⟨v, by omega, b⟩
theorem ct_in {p : Nat → Bool} {v : Nat} (q : p v = true) : ∀ n, v < n → ct n p ≠ 0
  | n + 1, h => by
    rw [ct]
    by_cases e : v = n
    · rw [← e, q]
      simp
    · have := ct_in q n (by omega)
      omega
def bfr (key : Nat → Int32) (v u : Nat) : Bool := decide (key v < key u ∨ (key v = key u ∧ v < u))
def rnk (n : Nat) (sel : Nat → Bool) (key : Nat → Int32) (u : Nat) : Nat := ct n (fun v => sel v && bfr key v u)
theorem bfr_no {key : Nat → Int32} {u v : Nat} (q : key u < key v ∨ (key u = key v ∧ u < v)) : bfr key v u = false := by
  refine decide_eq_false ?_
  rintro (a | ⟨a, b⟩)
  · rcases q with c | ⟨c, d⟩
    · exact Int32.lt_asymm a c
    · rw [c] at a
      exact Int32.lt_irrefl a
  · rcases q with c | ⟨c, d⟩
    · rw [a] at c
      exact Int32.lt_irrefl c
    · omega
theorem bfr_self {key : Nat → Int32} {u : Nat} : bfr key u u = false := by
  refine decide_eq_false ?_
  rintro (a | ⟨-, b⟩)
  · exact Int32.lt_irrefl a
  · exact Nat.lt_irrefl u b
theorem Rk_ans {hh h : ev_H} {n : Nat} {sel : Nat → Bool} {key : Nat → Int32} (R : Rk hh h n sel key) (hn : n ≤ 48) {x : Int32} {c : Nat → Prop} (hc : ∀ a, a < n → (c a ↔ (sel a = true ∧ nI (rnk n sel key a) = x))) :
    (∃ a, a < n ∧ c a ∧ f_RK_at hh x = nI a ∧ ∀ b, b < n → c b → b = a) ∨ ((∀ a, a < n → ¬ c a) ∧ f_RK_at hh x = -1) := by
  obtain ⟨r1, r2, s, N, r3, r4, r5, r6, r7⟩ := R
  have rk : ∀ j, j < s → rnk n sel key (N j) = j := fun j hj => by
    unfold rnk
    rw [r7 (fun v => bfr key v (N j))]
    have e : ∀ i, i < s → bfr key (N i) (N j) = decide (i < j) := fun i hi => by
      by_cases a : i < j
      · rw [decide_eq_true a]
        exact decide_eq_true (r6 i j a hj)
      · rw [decide_eq_false a]
        by_cases b : i = j
        · rw [b]; exact bfr_self
        · exact bfr_no (r6 j i (by omega) hi)
    rw [ct_cg s e, ct_lt, if_pos (by omega)]
  have ex : ∀ b, b < n → sel b = true → ∃ j, j < s ∧ N j = b := fun b hb hs => by
    have z := r7 (fun v => decide (v = b))
    have y : ct n (fun v => sel v && decide (v = b)) ≠ 0 := ct_in (v := b) (by simp [hs]) n hb
    rw [z] at y
    obtain ⟨j, hj, e⟩ := ct_ex s y
    exact ⟨j, hj, of_decide_eq_true e⟩
  by_cases x0 : x < 0
  · refine Or.inr ⟨fun a ha ca => ?_, by rw [f_RK_at, if_pos x0]⟩
    have z := ((hc a ha).mp ca).2
    have l : rnk n sel key a ≤ n := ct_le n
    rw [← z] at x0
    exact nI_pos (by omega) x0
  · obtain ⟨i, hi, rfl⟩ := nI_of x0
    by_cases y : i < s
    · refine Or.inl ⟨N i, (r5 i y).2.2.1, (hc _ (r5 i y).2.2.1).mpr ⟨(r5 i y).2.2.2, by rw [rk i y]⟩, ?_, fun b hb cb => ?_⟩
      · rw [f_RK_at, if_neg x0, r4, if_neg (nI_ge y (by omega)), nI_clamp hi]
        exact (r5 i y).1
      · obtain ⟨z1, z2⟩ := (hc b hb).mp cb
        obtain ⟨j, hj, e⟩ := ex b hb z1
        rw [← e, rk j hj, nI_eq (by omega) (by omega)] at z2
        rw [← e, z2]
    · refine Or.inr ⟨fun a ha ca => ?_, ?_⟩
      · obtain ⟨z1, z2⟩ := (hc a ha).mp ca
        obtain ⟨j, hj, e⟩ := ex a ha z1
        rw [← e, rk j hj, nI_eq (by omega) (by omega)] at z2
        omega
      · rw [f_RK_at, if_neg x0, r4, if_pos (nI_le (by omega) hi)]
/-- a search from below -/
noncomputable def rsG (c : Nat → Prop) (n : Nat) : Nat → Int32
  | 0 => -1
  | d + 1 => @ite _ (c (n - (d + 1))) (Classical.propDecidable _) (nI (n - (d + 1))) (rsG c n d)
theorem rsG_1 {c : Nat → Prop} {n a : Nat} (ha : a < n) (ca : c a) (un : ∀ b, b < n → c b → b = a) : ∀ d, d ≤ n → n - d ≤ a → rsG c n d = nI a
  | 0, _, q => by omega
  | d + 1, hd, q => by
    rw [rsG]
    by_cases z : c (n - (d + 1))
    · rw [if_pos z, un _ (by omega) z]
    · rw [if_neg z]
      have : n - (d + 1) ≠ a := fun e => z (by rw [e]; exact ca)
      exact rsG_1 ha ca un d (by omega) (by omega)
theorem rsG_0 {c : Nat → Prop} {n : Nat} (no : ∀ a, a < n → ¬ c a) : ∀ d, d ≤ n → rsG c n d = -1
  | 0, _ => rfl
  | d + 1, hd => by
    rw [rsG, if_neg (no _ (by omega))]
    exact rsG_0 no d (by omega)
theorem rs_ans {hh h : ev_H} {n : Nat} {sel : Nat → Bool} {key : Nat → Int32} (R : Rk hh h n sel key) (hn : n ≤ 48) {x : Int32} {c : Nat → Prop} (hc : ∀ a, a < n → (c a ↔ (sel a = true ∧ nI (rnk n sel key a) = x))) : rsG c n n = f_RK_at hh x := by
  rcases Rk_ans R hn hc with ⟨a, h1, h2, h3, h4⟩ | ⟨h1, h2⟩
  · rw [h3]
    exact rsG_1 h1 h2 h4 n (Nat.le_refl n) (by omega)
  · rw [h2]
    exact rsG_0 h1 n (Nat.le_refl n)
theorem rs_offer {h : ev_H} {x1 x2 x3 : Int32} {n : Nat} : ∀ d, res_MO_offer_O41 h x1 x2 x3 n d = rsG (res_MO_offer_O41_c h x1 x2 x3) n d
  | 0 => rfl
  | d + 1 => by rw [res_MO_offer_O41, rsG, rs_offer d]
theorem rs_expiring {h : ev_H} {x1 x2 : Int32} {n : Nat} : ∀ d, res_MO_expiring_O29 h x1 x2 n d = rsG (res_MO_expiring_O29_c h x1 x2) n d
  | 0 => rfl
  | d + 1 => by rw [res_MO_expiring_O29, rsG, rs_expiring d]
theorem rs_received {h : ev_H} {x1 x2 : Int32} {n : Nat} : ∀ d, res_MO_received_O27 h x1 x2 n d = rsG (res_MO_received_O27_c h x1 x2) n d
  | 0 => rfl
  | d + 1 => by rw [res_MO_received_O27, rsG, rs_received d]
theorem rs_lookback {h : ev_H} {x1 x2 : Int32} {n : Nat} : ∀ d, res_MO_lookback_O29 h x1 x2 n d = rsG (res_MO_lookback_O29_c h x1 x2) n d
  | 0 => rfl
  | d + 1 => by rw [res_MO_lookback_O29, rsG, rs_lookback d]
