/-! what each call needs, out of the relation (by program) -/
def Kp (E : ev_E) (P : Option ev_V ⊕ Nat → ev_H → Prop) (i c : Nat) : Prop := ∀ h' t' l', Inv h' c t' l' → Ev E M_LW_law 2164 [(0, vR 5 0), (1, vR 0 0), (2, vR 0 6), (3, vR 0 27), (4, vI (nI i))] [] h' P
theorem st_cx {p u : Nat} : ((48 : Int32) * nI p + nI u) = nI (48 * p + u) := by
  have z : (48 : Int32) = nI 48 := by decide
  rw [z, nI, nI, nI, nI, ← Int32.ofNat_mul, ← Int32.ofNat_add]
theorem st_gR2 {h h' : ev_H} (e : h'.2 = h.2) {k i j : Nat} : gR h' k i j = gR h k i j := by
  show h'.2.1 k i j = h.2.1 k i j
  rw [e]
section
variable {h h1 : ev_H} {c t l : Nat}
theorem st_u1 (I : Inv h c t l) (e : mE h1 h) {u : Nat} (hu : u < cU h) : f_MO_isUnit h1 (nI u) = 1 := by
  have := Inv_48 I
  rw [ag_unit I e, Inv_n I, isB_mk (by omega) hu]
theorem st_p1 (I : Inv h c t l) (e : mE h1 h) {p : Nat} (hp : p < cP h) : f_MO_isPatient h1 (nI p) = 1 := by
  have := Inv_10 I
  rw [ag_pat I e, Inv_m I, isB_mk (by omega) hp]
theorem st_n2 (I : Inv h c t l) (e : mE h1 h) : gI h1 0 6 2 = nI (cU h) := by rw [e 6 2 (by decide) (by decide) (fun _ => by decide), Inv_n2 I]
theorem st_m2 (I : Inv h c t l) (e : mE h1 h) : gI h1 0 6 19 = nI (cP h) := by rw [e 6 19 (by decide) (by decide) (fun _ => by decide), Inv_m2 I]
theorem st_c4 (I : Inv h c t l) : (gI h 0 0 4).toNatClampNeg = cP h := by
  have := Inv_10 I
  rw [Inv_m I, nI_clamp (by omega)]
theorem st_g (I : Inv h c t l) {b : Nat} (hb : b < cU h) : gR h 0 1 b = vR 1 b := I.1.2.2.2.1.1 b hb
/-! ranking -/
theorem lp_3 {hh : ev_H} {n : Nat} {sel : Nat → Bool} {key : Nat → Int32} (I : Inv h c t l) (R : Rk hh h n sel key) : gI hh 0 0 3 = nI (cU h) := (R.1.1 0 0 3 (by unfold vis; omega)).trans (Inv_n I)
theorem lp_4 {hh : ev_H} {n : Nat} {sel : Nat → Bool} {key : Nat → Int32} (I : Inv h c t l) (R : Rk hh h n sel key) : gI hh 0 0 4 = nI (cP h) := (R.1.1 0 0 4 (by unfold vis; omega)).trans (Inv_m I)
theorem lp_c {hh : ev_H} {n : Nat} {sel : Nat → Bool} {key : Nat → Int32} (I : Inv h c t l) (R : Rk hh h n sel key) : (gI hh 0 0 3).toNatClampNeg = cU h := by
  have := Inv_48 I
  rw [lp_3 I R, nI_clamp (by omega)]
theorem lp_R {hh : ev_H} {n : Nat} {sel : Nat → Bool} {key : Nat → Int32} (I : Inv h c t l) (R : Rk hh h n sel key) : rfs hh := rfs_R R.1.2.1 (Inv_R I)
theorem lp_g {hh : ev_H} {n b : Nat} {sel : Nat → Bool} {key : Nat → Int32} (I : Inv h c t l) (R : Rk hh h n sel key) (hb : b < cU h) : gR hh 0 1 b = vR 1 b := (R.1.2.1 0 1 b).trans (st_g I hb)
theorem lp_s {hh : ev_H} {n : Nat} {sel : Nat → Bool} {key : Nat → Int32} (R : Rk hh h n sel key) (hn : n ≤ 48) : gI hh 0 3 2 = nI (gI hh 0 3 2).toNatClampNeg ∧ (gI hh 0 3 2).toNatClampNeg ≤ n ∧ gI hh 0 3 2 ≤ 48 := by
  obtain ⟨-, -, s, N, hs, e, -⟩ := R
  have e48 : (48 : Int32) = nI 48 := by decide
  rw [e, nI_clamp (by omega), e48, nI_leI (by omega) (by omega)]
  exact ⟨rfl, hs, by omega⟩
end
/-! refusals -/
theorem rf_0 {h : ev_H} {a b d e : Int32} (q : (f_MO_refused h a b d e).1 = 0) : a = 0 ∧ b = 0 ∧ d = 0 ∧ e = 0 := by
  have q1 : (if m_MO_refused_35 a b d e ≤ 0 then (0 : Int32) else 1) = 0 := q
  have q2 : m_MO_refused_35 a b d e ≤ 0 := by
    by_cases z : m_MO_refused_35 a b d e ≤ 0
    · exact z
    · rw [if_neg z] at q1
      exact absurd q1 (by decide)
  unfold m_MO_refused_35 at q2
  by_cases z1 : a = 0
  · rw [if_pos z1] at q2
    by_cases z2 : b = 0
    · rw [if_pos z2] at q2
      by_cases z3 : d = 0
      · rw [if_pos z3] at q2
        by_cases z4 : e = 0
        · exact ⟨z1, z2, z3, z4⟩
        · rw [if_neg z4] at q2
          exact absurd q2 (by decide)
      · rw [if_neg z3] at q2
        exact absurd q2 (by decide)
    · rw [if_neg z2] at q2
      exact absurd q2 (by decide)
  · rw [if_neg z1] at q2
    exact absurd q2 (by decide)
theorem kp_Z {A : ev_H} {u : Nat} {a b d : Int32} : cZ (f_TB_keepProduct A u a b d).2 = cZ A + 1 := rfl
theorem kp_3 {A : ev_H} {u : Nat} {a b d : Int32} : gI (f_TB_keepProduct A u a b d).2 0 0 3 = gI A 0 0 3 + 1 := rfl
theorem ad_2 {B : ev_H} {x a b d : Int32} : gI (f_MO_add B x a b d).2 0 6 2 = gI B 0 6 2 + 1 := rfl
section
variable {h h1 : ev_H} {c t l : Nat}
theorem st_ru (I : Inv h c t l) (e : mE h1 h) {x1 x2 x3 x4 x5 : Int32} (q : (f_MO_refused h1 (m_MO_unit_54 x1 x2 x3 x4 x5) (m_MO_unit_73 h1 x1 x2 x3 x4 x5) 0 0).1 = 0) : (gI h1 0 6 2).toNatClampNeg < 48 := by
  have b := Inv_48 I
  have z := (rf_0 q).2.1
  rw [rd_c2 I e]
  unfold m_MO_unit_73 at z
  rw [st_n2 I e] at z
  by_cases y : nI (cU h) = 48
  · rw [if_pos y] at z
    exact absurd z (by decide)
  · by_cases w : cU h = 48
    · rw [w] at y
      exact absurd (by decide) y
    · omega
theorem st_rq (I : Inv h c t l) (e : mE h1 h) {x1 x2 a d : Int32} (q : (f_MO_refused h1 0 a (m_MO_process_1_70 h1 x1 x2) d).1 = 0) : (x2 = 0 → cU h + 3 ≤ 48) ∧ cU h + 1 ≤ 48 := by
  have b := Inv_48 I
  have z := (rf_0 q).2.2.1
  unfold m_MO_process_1_70 m_MO_process_1_15 at z
  rw [st_n2 I e] at z
  have e48 : (48 : Int32) = nI 48 := by decide
  have e3 : (3 : Int32) = nI 3 := by decide
  have e1 : (1 : Int32) = nI 1 := by decide
  by_cases y : f_MO_isReady h1 x1 = 0
  · rw [if_pos y] at z
    exact absurd z (by decide)
  · rw [if_neg y] at z
    by_cases w : x2 = 0
    · rw [if_pos w, e48, e3, nI_add] at z
      by_cases v : nI (cU h + 3) ≤ nI 48
      · rw [nI_leI (by omega) (by omega)] at v
        exact ⟨fun _ => v, by omega⟩
      · rw [if_neg v] at z
        exact absurd z (by decide)
    · rw [if_neg w, e48] at z
      by_cases v : nI (cU h) + 1 ≤ nI 48
      · rw [e1, nI_add, nI_leI (by omega) (by omega)] at v
        exact ⟨fun x => absurd x w, v⟩
      · rw [if_neg v] at z
        exact absurd z (by decide)
theorem st_rp (I : Inv h c t l) (e : mE h1 h) {x1 x2 a d : Int32} (q : (f_MO_refused h1 0 a (m_MO_pool_11_149 h1 x1 x2) d).1 = 0) : cU h < 48 := by
  have b := Inv_48 I
  have z := (rf_0 q).2.2.1
  have e48 : (48 : Int32) = nI 48 := by decide
  unfold m_MO_pool_11_149 m_MO_pool_11_56 at z
  rw [st_n2 I e] at z
  by_cases w : (48 : Int32) ≤ nI (cU h)
  · rw [if_pos w] at z
    simp at z
  · rw [e48, nI_leI (by omega) (by omega)] at w
    omega
theorem st_rt (I : Inv h c t l) (e : mE h1 h) (q : (f_MO_refused h1 (m_MO_patient_15 h1) 0 0 0).1 = 0) : (gI h1 0 6 19).toNatClampNeg < 10 := by
  have b := Inv_10 I
  have z := (rf_0 q).1
  rw [rd_c19 I e]
  unfold m_MO_patient_15 at z
  rw [st_m2 I e] at z
  by_cases y : nI (cP h) = 10
  · rw [if_pos y] at z
    exact absurd z (by decide)
  · by_cases w : cP h = 10
    · rw [w] at y
      exact absurd (by decide) y
    · omega
end
section
variable {h h1 : ev_H} {c t l : Nat}
theorem st_k1 (I : Inv h c t l) {w u : Nat} {a b d v : Int32} : gI (f_TB_keepProduct (sI h 1 w 8 v) u a b d).2 0 0 3 = nI (cU h + 1) := by
  rw [kp_3, gI_ne (by omega), Inv_n I, nI_1]
theorem st_k2 (I : Inv h c t l) {w u u2 : Nat} {a b d a2 b2 d2 v : Int32} : gI (f_TB_keepProduct (f_TB_keepProduct (sI h 1 w 8 v) u a b d).2 u2 a2 b2 d2).2 0 0 3 = nI (cU h + 2) := by
  rw [kp_3, st_k1 I, nI_1]
theorem st_a1 (I : Inv h c t l) (e : mE h1 h) {r1 r2 r3 r4 x a b d : Int32} : gI (f_MO_add (f_MO_refused h1 r1 r2 r3 r4).2 x a b d).2 0 6 2 = nI (cU h + 1) := by
  rw [ad_2]
  show gI h1 0 6 2 + 1 = _
  rw [st_n2 I e, nI_1]
theorem st_a2 (I : Inv h c t l) (e : mE h1 h) {r1 r2 r3 r4 x a b d x2 a2 b2 d2 : Int32} : gI (f_MO_add (f_MO_add (f_MO_refused h1 r1 r2 r3 r4).2 x a b d).2 x2 a2 b2 d2).2 0 6 2 = nI (cU h + 2) := by
  rw [ad_2, st_a1 I e, nI_1]
end
