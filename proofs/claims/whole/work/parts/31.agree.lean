/-! program and reference ask alike -/
def mE (h1 h : ev_H) : Prop := ∀ i j, 6 ≤ i → i ≤ 26 → (i = 6 → 1 ≤ j) → gI h1 0 i j = gI h 0 i j
theorem mE_rf {h : ev_H} : mE h h := fun _ _ _ _ _ => rfl
theorem mE_tr {h h1 h2 : ev_H} (a : mE h2 h1) (b : mE h1 h) : mE h2 h := fun i j x y z => (a i j x y z).trans (b i j x y z)
theorem mE_sm {h h1 : ev_H} (s : sm h1 h) : mE h1 h := fun i j x y z => s.1 0 i j (by unfold vis; omega)
theorem mE_k {h : ev_H} {k i j : Nat} {v : Int32} (q : k ≠ 0 ∨ i < 6 ∨ 26 < i ∨ (i = 6 ∧ j = 0)) : mE (sI h k i j v) h := fun a b x y z => gI_ne (by omega)
theorem mE_L {h : ev_H} {k i j : Nat} {v : Int64} : mE (sL h k i j v) h := fun _ _ _ _ _ => rfl
theorem refused_0 {h : ev_H} : f_MO_refused h 0 0 0 0 = (0, sI h 0 6 0 0) := by
  have e1 : m_MO_refused_35 0 0 0 0 = 0 := by decide
  have e2 : gI (sI h 0 6 0 0) 0 6 0 = 0 := rfl
  unfold f_MO_refused f_MO_refused_35
  rw [e1, e2, if_pos (by decide)]
theorem refused_2 {h : ev_H} {b d : Int32} : f_MO_refused h 0 1 b d = (1, sI h 0 6 0 2) := by
  have e1 : m_MO_refused_35 0 1 b d = 2 := by rw [m_MO_refused_35, if_pos rfl, if_neg (by decide)]
  have e2 : gI (sI h 0 6 0 2) 0 6 0 = 2 := rfl
  unfold f_MO_refused f_MO_refused_35
  rw [e1, e2, if_neg (by decide)]
theorem refused_3 {h : ev_H} {d : Int32} : f_MO_refused h 0 0 1 d = (1, sI h 0 6 0 3) := by
  have e1 : m_MO_refused_35 0 0 1 d = 3 := by rw [m_MO_refused_35, if_pos rfl, if_pos rfl, if_neg (by decide)]
  have e2 : gI (sI h 0 6 0 3) 0 6 0 = 3 := rfl
  unfold f_MO_refused f_MO_refused_35
  rw [e1, e2, if_neg (by decide)]
theorem refused_4 {h : ev_H} : f_MO_refused h 0 0 0 1 = (1, sI h 0 6 0 4) := by
  have e1 : m_MO_refused_35 0 0 0 1 = 4 := by decide
  have e2 : gI (sI h 0 6 0 4) 0 6 0 = 4 := rfl
  unfold f_MO_refused f_MO_refused_35
  rw [e1, e2, if_neg (by decide)]
/-- within 0 .. m is below m + 1 -/
theorem in_below {x m n : Int32} (q : n.toInt = m.toInt + 1) : f_MO_in x 0 m = f_TB_isBelow x n := by
  unfold f_MO_in f_TB_isBelow
  by_cases a : x < 0
  · rw [if_pos a, if_pos a]
  · rw [if_neg a, if_neg a]
    have e : (m < x) = (n ≤ x) := by
      rw [Int32.lt_iff_toInt_lt, Int32.le_iff_toInt_le]
      exact propext ⟨fun _ => by omega, fun _ => by omega⟩
    simp only [e]
theorem nI_pd {k : Nat} (hk : k < 1000) : (nI k).toInt = (nI k - 1).toInt + 1 := by
  cases k with
  | zero => decide
  | succ k => rw [nI_pred, nI_toInt (by omega), nI_toInt (by omega)]; omega
theorem isB_ex {x : Int32} {n : Nat} (hn : n < 1000) (q : ¬ f_TB_isBelow x (nI n) = 0) : ∃ u, u < n ∧ x = nI u := by
  have q1 := isB_1 (n := n) q (nI_toInt (by omega))
  obtain ⟨j, hj, rfl⟩ := nI_of (isB_0 q)
  rw [nI_clamp hj] at q1
  exact ⟨j, q1, rfl⟩
theorem isB_mk {u n : Nat} (hn : n < 1000) (q : u < n) : f_TB_isBelow (nI u) (nI n) = 1 := by
  unfold f_TB_isBelow
  rw [if_neg (nI_pos (by omega)), if_neg (nI_ge q (by omega))]
section
variable {h h1 : ev_H} {c t l : Nat}
theorem Inv_U (I : Inv h c t l) {u : Nat} (hu : u < cU h) : UJ t l (fun f => gI h 1 u f) (fun a => gI h 0 a u) := I.2.1 u hu
theorem Inv_P (I : Inv h c t l) {p : Nat} (hp : p < cP h) : PJ (fun f => gI h 2 p f) (fun a => gI h 0 a p) := I.2.2.1 p hp
theorem Inv_48 (I : Inv h c t l) : cU h ≤ 48 := I.1.1.2.2.2.1
theorem Inv_10 (I : Inv h c t l) : cP h ≤ 10 := I.1.1.2.2.2.2.1
theorem Inv_Z (I : Inv h c t l) : cZ h ≤ 28 + 4 * c := I.1.1.2.2.2.2.2
theorem Inv_R (I : Inv h c t l) : rfs h := I.1.1.1
theorem Inv_n (I : Inv h c t l) : gI h 0 0 3 = nI (cU h) := I.1.2.1.1
theorem Inv_n2 (I : Inv h c t l) : gI h 0 6 2 = nI (cU h) := I.1.2.1.2.1
theorem Inv_m (I : Inv h c t l) : gI h 0 0 4 = nI (cP h) := I.1.2.1.2.2.1
theorem Inv_m2 (I : Inv h c t l) : gI h 0 6 19 = nI (cP h) := I.1.2.1.2.2.2
theorem Inv_t (I : Inv h c t l) : gI h 0 0 5 = nI t := I.1.2.2.1.1
theorem Inv_t2 (I : Inv h c t l) : gI h 0 6 1 = nI t := I.1.2.2.1.2.1
theorem Inv_q (I : Inv h c t l) : gI h 0 0 6 = gI h 0 6 18 := I.1.2.2.1.2.2.1
theorem Inv_l (I : Inv h c t l) : gI h 0 0 7 = nI l := I.1.2.2.1.2.2.2.1
theorem Inv_l2 (I : Inv h c t l) : gI h 0 6 17 = nI l := I.1.2.2.1.2.2.2.2
theorem Inv_tb (I : Inv h c t l) : t ≤ 25600000 := by
  obtain ⟨a, b, -⟩ := I.1.2.2.2.2
  omega
theorem Inv_lb (I : Inv h c t l) : l ≤ 512 := by
  obtain ⟨a, -, b⟩ := I.1.2.2.2.2
  omega
theorem Inv_uok (I : Inv h c t l) : uok h := fun x q => by
  rw [Inv_n I] at q
  have := Inv_48 I
  obtain ⟨u, hu, rfl⟩ := isB_ex (by omega) q
  rw [nI_clamp (by omega)]
  exact ⟨nI_pos (by omega), by omega, I.1.2.2.2.1.1 u hu⟩
theorem Inv_pok (I : Inv h c t l) : pok h := fun x q => by
  rw [Inv_m I] at q
  have := Inv_10 I
  obtain ⟨u, hu, rfl⟩ := isB_ex (by omega) q
  rw [nI_clamp (by omega)]
  exact ⟨nI_pos (by omega), by omega, I.1.2.2.2.1.2 u hu⟩
theorem Inv_ZM (I : Inv h c t l) (hc : c < 512) : cZ h < ZM := by
  have := Inv_Z I
  have : ZM = 4096 := rfl
  omega
theorem ag_unit (I : Inv h c t l) (e : mE h1 h) (x : Int32) : f_MO_isUnit h1 x = f_TB_isBelow x (gI h 0 0 3) := by
  have := Inv_48 I
  rw [f_MO_isUnit, e 6 2 (by decide) (by decide) (fun _ => by decide), Inv_n2 I, Inv_n I]
  exact in_below (nI_pd (by omega))
theorem ag_pat (I : Inv h c t l) (e : mE h1 h) (x : Int32) : f_MO_isPatient h1 x = f_TB_isBelow x (gI h 0 0 4) := by
  have := Inv_10 I
  rw [f_MO_isPatient, e 6 19 (by decide) (by decide) (fun _ => by decide), Inv_m2 I, Inv_m I]
  exact in_below (nI_pd (by omega))
theorem ag_state (I : Inv h c t l) (e : mE h1 h) {u : Nat} (hu : u < cU h) : f_MO_stateOf h1 (nI u) = gI h 1 u 8 := by
  have := Inv_48 I
  have q := (Inv_U I hu).2.1.1
  simp only at q
  rw [q, f_MO_stateOf, stO, nI_clamp (by omega), e 6 1 (by decide) (by decide) (fun _ => by decide), e 15 u (by decide) (by decide) (fun z => by omega), e 17 u (by decide) (by decide) (fun z => by omega), Inv_t2 I]
theorem ag_exp (I : Inv h c t l) (e : mE h1 h) {u : Nat} (hu : u < cU h) : f_MO_isExpired h1 (nI u) = f_UN_isExpired h u (gI h 0 0 5) := by
  have := Inv_48 I
  have q := (Inv_U I hu).1.1.2.2.2.2
  simp only at q
  rw [f_MO_isExpired, f_UN_isExpired, nI_clamp (by omega), e 6 1 (by decide) (by decide) (fun _ => by decide), e 13 u (by decide) (by decide) (fun z => by omega), Inv_t2 I, Inv_t I, q]
theorem ag_bar (I : Inv h c t l) (e : mE h1 h) {u : Nat} (hu : u < cU h) : f_MO_isBarred h1 (nI u) = f_UN_isBarred h u (gI h 0 0 6) := by
  have := Inv_48 I
  have q := (Inv_U I hu).1.1.2.2.2.1
  simp only at q
  rw [f_MO_isBarred, f_UN_isBarred, nI_clamp (by omega), e 6 18 (by decide) (by decide) (fun _ => by decide), e 14 u (by decide) (by decide) (fun z => by omega), Inv_q I, q]
theorem ag_ready (I : Inv h c t l) (e : mE h1 h) {u : Nat} (hu : u < cU h) : f_MO_isReady h1 (nI u) = f_TB_isReady h u := by
  rw [f_MO_isReady, f_TB_isReady, f_TB_isUsable, ag_state I e hu, ag_exp I e hu, ag_bar I e hu]
  (repeat' split) <;> simp_all
theorem gR_of {a b : Nat} (ha : a < 4) (hb : b < 2) : nI (2 * a + b) / 2 = nI a ∧ nI (2 * a + b) - nI (2 * a + b) / 2 * 2 = nI b := by
  have e1 : a = 0 ∨ a = 1 ∨ a = 2 ∨ a = 3 := by omega
  have e2 : b = 0 ∨ b = 1 := by omega
  rcases e1 with rfl | rfl | rfl | rfl <;> rcases e2 with rfl | rfl <;> decide +kernel
theorem ag_reason (I : Inv h c t l) (e : mE h1 h) {p u : Nat} (hp : p < cP h) (hu : u < cU h) : f_MO_reasonFor h1 (nI p) (nI u) = f_RU_reason h p u := by
  have := Inv_48 I
  have := Inv_10 I
  obtain ⟨⟨⟨k1, k2, k3, -, -⟩, -, k6, k7, -, -⟩, -⟩ := Inv_U I hu
  obtain ⟨⟨p1, -, p3, p4⟩, pg, -⟩ := Inv_P I hp
  simp only at k1 k2 k3 k6 k7 p1 p3 p4 pg
  unfold f_MO_reasonFor f_MO_reasonFor_14 f_MO_reasonFor_30 f_MO_reasonFor_57 f_MO_reasonFor_74 f_MO_reasonFor_91 m_MO_reasonFor_74 m_MO_reasonFor_91 m_MO_reasonFor_57 m_MO_reasonFor_30 m_MO_reasonFor_14 f_RU_reason f_RU_groupFits f_PA_groupOr f_PA_isConfirmedWithRhesus
  have cu : (nI u).toNatClampNeg = u := nI_clamp (by omega)
  have cp : (nI p).toNatClampNeg = p := nI_clamp (by omega)
  simp only [cu, cp, e 7 u (by decide) (by decide) (fun z => by omega), e 8 u (by decide) (by decide) (fun z => by omega), e 9 u (by decide) (by decide) (fun z => by omega), e 11 u (by decide) (by decide) (fun z => by omega), e 12 u (by decide) (by decide) (fun z => by omega), e 21 p (by decide) (by decide) (fun z => by omega), e 23 p (by decide) (by decide) (fun z => by omega), e 24 p (by decide) (by decide) (fun z => by omega), e 25 p (by decide) (by decide) (fun z => by omega), k1, k2, k3, k6, k7, p1, p3, p4]
  by_cases s : gI h 0 23 p = 1
  · rcases pg with ⟨-, -, -, z⟩ | ⟨a, b, ha, hb, g1, g2, g3⟩
    · rw [s] at z
      exact absurd z (by decide)
    · rw [g1, (gR_of ha hb).2, (gR_of ha hb).1, g2, g3]
      simp only [s, if_true]
      by_cases r : gI h 0 7 u = 0
      · simp only [r]
        by_cases z1 : gI h 0 9 u = 1 <;> by_cases z2 : nI b = 1 <;> simp [z1, z2]
      · simp [r]
  · simp only [s, if_false]
    by_cases r : gI h 0 7 u = 0
    · simp [r]
    · simp [r]
end
