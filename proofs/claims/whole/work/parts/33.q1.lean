/-! each call, by cases (by program) -/
theorem rd_u7 {h h1 : ev_H} {c t l : Nat} (I : Inv h c t l) (e : mE h1 h) {u : Nat} (hu : u < cU h) : gI h1 0 7 u = gI h 1 u 0 := by
  have q := (Inv_U I hu).1.1.1
  simp only at q
  rw [e 7 u (by decide) (by decide) (fun z => by omega), q]
theorem rd_u8 {h h1 : ev_H} {c t l : Nat} (I : Inv h c t l) (e : mE h1 h) {u : Nat} (hu : u < cU h) : gI h1 0 8 u = gI h 1 u 1 := by
  have q := (Inv_U I hu).1.1.2.1
  simp only at q
  rw [e 8 u (by decide) (by decide) (fun z => by omega), q]
theorem rd_u9 {h h1 : ev_H} {c t l : Nat} (I : Inv h c t l) (e : mE h1 h) {u : Nat} (hu : u < cU h) : gI h1 0 9 u = gI h 1 u 2 := by
  have q := (Inv_U I hu).1.1.2.2.1
  simp only at q
  rw [e 9 u (by decide) (by decide) (fun z => by omega), q]
theorem rd_u14 {h h1 : ev_H} {c t l : Nat} (I : Inv h c t l) (e : mE h1 h) {u : Nat} (hu : u < cU h) : gI h1 0 14 u = gI h 1 u 3 := by
  have q := (Inv_U I hu).1.1.2.2.2.1
  simp only at q
  rw [e 14 u (by decide) (by decide) (fun z => by omega), q]
theorem rd_u13 {h h1 : ev_H} {c t l : Nat} (I : Inv h c t l) (e : mE h1 h) {u : Nat} (hu : u < cU h) : gI h1 0 13 u = gI h 1 u 4 := by
  have q := (Inv_U I hu).1.1.2.2.2.2
  simp only at q
  rw [e 13 u (by decide) (by decide) (fun z => by omega), q]
theorem rd_u10 {h h1 : ev_H} {c t l : Nat} (I : Inv h c t l) (e : mE h1 h) {u : Nat} (hu : u < cU h) : gI h1 0 10 u = gI h 1 u 5 := by
  have q := (Inv_U I hu).1.2.1
  simp only at q
  rw [e 10 u (by decide) (by decide) (fun z => by omega), q]
theorem rd_u11 {h h1 : ev_H} {c t l : Nat} (I : Inv h c t l) (e : mE h1 h) {u : Nat} (hu : u < cU h) : gI h1 0 11 u = gI h 1 u 6 := by
  have q := (Inv_U I hu).1.2.2.1
  simp only at q
  rw [e 11 u (by decide) (by decide) (fun z => by omega), q]
theorem rd_u12 {h h1 : ev_H} {c t l : Nat} (I : Inv h c t l) (e : mE h1 h) {u : Nat} (hu : u < cU h) : gI h1 0 12 u = gI h 1 u 7 := by
  have q := (Inv_U I hu).1.2.2.2.1
  simp only at q
  rw [e 12 u (by decide) (by decide) (fun z => by omega), q]
theorem rd_u19 {h h1 : ev_H} {c t l : Nat} (I : Inv h c t l) (e : mE h1 h) {u : Nat} (hu : u < cU h) : gI h1 0 19 u = gI h 1 u 13 := by
  have q := (Inv_U I hu).1.2.2.2.2.1
  simp only at q
  rw [e 19 u (by decide) (by decide) (fun z => by omega), q]
theorem rd_u20 {h h1 : ev_H} {c t l : Nat} (I : Inv h c t l) (e : mE h1 h) {u : Nat} (hu : u < cU h) : gI h1 0 20 u = gI h 1 u 14 := by
  have q := (Inv_U I hu).1.2.2.2.2.2
  simp only at q
  rw [e 20 u (by decide) (by decide) (fun z => by omega), q]
theorem rd_p23 {h h1 : ev_H} {c t l : Nat} (I : Inv h c t l) (e : mE h1 h) {p : Nat} (hp : p < cP h) : gI h1 0 23 p = gI h 2 p 0 := by
  have q := (Inv_P I hp).1.1
  simp only at q
  rw [e 23 p (by decide) (by decide) (fun z => by omega), q]
theorem rd_p22 {h h1 : ev_H} {c t l : Nat} (I : Inv h c t l) (e : mE h1 h) {p : Nat} (hp : p < cP h) : gI h1 0 22 p = gI h 2 p 3 := by
  have q := (Inv_P I hp).1.2.1
  simp only at q
  rw [e 22 p (by decide) (by decide) (fun z => by omega), q]
theorem rd_p24 {h h1 : ev_H} {c t l : Nat} (I : Inv h c t l) (e : mE h1 h) {p : Nat} (hp : p < cP h) : gI h1 0 24 p = gI h 2 p 4 := by
  have q := (Inv_P I hp).1.2.2.1
  simp only at q
  rw [e 24 p (by decide) (by decide) (fun z => by omega), q]
theorem rd_p25 {h h1 : ev_H} {c t l : Nat} (I : Inv h c t l) (e : mE h1 h) {p : Nat} (hp : p < cP h) : gI h1 0 25 p = gI h 2 p 5 := by
  have q := (Inv_P I hp).1.2.2.2
  simp only at q
  rw [e 25 p (by decide) (by decide) (fun z => by omega), q]
theorem ag_match {h h1 : ev_H} {c t l : Nat} (I : Inv h c t l) (e : mE h1 h) {p u : Nat} (hp : p < cP h) (hu : u < cU h) : f_MO_isMatched h1 (nI p) (nI u) = m_TB_isCleared_24 h p u (nI u) := by
  have l48 := Inv_48 I
  have l10 := Inv_10 I
  have cu : (nI u).toNatClampNeg = u := nI_clamp (by omega)
  have e48 : (48 : Int32) * nI p + nI u = nI (48 * p + u) := by
    have z : (48 : Int32) = nI 48 := by decide
    rw [z, nI, nI, nI, nI, ← Int32.ofNat_mul, ← Int32.ofNat_add]
  have cx : ((48 : Int32) * nI p + nI u).toNatClampNeg = 48 * p + u := by rw [e48, nI_clamp (by omega)]
  obtain ⟨x1, x2⟩ := I.2.2.2.2.1 p hp u (by omega)
  unfold f_MO_isMatched m_TB_isCleared_24 f_PA_hasValidCrossmatch
  rw [cu, cx, rd_u7 I e hu, e 6 1 (by decide) (by decide) (fun _ => by decide), e 26 _ (by decide) (by decide) (fun z => by omega), Inv_t2 I, Inv_t I, x1]
  by_cases k : gI h 1 u 0 = 0
  · rw [if_pos k, if_pos k]
    rcases x2 with z | z
    · rw [z]
      simp
    · have y1 : ¬ gI h 0 26 (48 * p + u) < 0 := Int32.not_lt.mpr z
      have y2 : ¬ gI h 0 26 (48 * p + u) = -1 := fun w => by rw [w] at y1; exact y1 (by decide)
      rw [if_neg y1, if_neg y2]
      by_cases w : 4320 ≤ nI t - gI h 0 26 (48 * p + u)
      · rw [if_pos w]; simp
      · rw [if_neg w]; simp
  · rw [if_neg k, if_neg k]
theorem in_lo {x a b : Int32} (q : x < a) : f_MO_in x a b = 0 := if_pos q
theorem in_hi {x a b : Int32} (q : ¬ x ≤ b) : f_MO_in x a b = 0 := by
  unfold f_MO_in
  by_cases z : x < a
  · rw [if_pos z]
  · rw [if_neg z, if_pos (Int32.not_le.mp q)]
theorem in_1 {x a b : Int32} (q1 : ¬ x < a) (q2 : x ≤ b) : f_MO_in x a b = 1 := by
  unfold f_MO_in
  rw [if_neg q1, if_neg (Int32.not_lt.mpr q2)]
theorem n10 : ((1 : Int32) = 0) = False := eq_false (by decide)
theorem in_no {x m : Int32} {n : Nat} (hm : m.toInt = n) (q : ∀ j, j ≤ n → x ≠ nI j) : f_MO_in x 0 m = 0 := by
  by_cases z : x < 0
  · exact in_lo z
  · by_cases y : x ≤ m
    · obtain ⟨j, hj, e⟩ := nI_of2 hm z y
      exact absurd e (q j hj)
    · exact in_hi y
theorem bt_1 {x y : Int32} : (if f_TB_isBelow x 4 = 0 then (1 : Int32) else if f_TB_isBelow y 2 = 0 then 1 else 0) = if f_TB_isBloodType x y = 0 then 1 else 0 := by
  unfold f_TB_isBloodType
  by_cases a : f_TB_isBelow x 4 = 0
  · simp [a]
  · by_cases b : f_TB_isBelow y 2 = 0 <;> simp [a, b]
theorem bt_ex {x y : Int32} (q : ¬ f_TB_isBloodType x y = 0) : ∃ a b, a < 4 ∧ b < 2 ∧ x = nI a ∧ y = nI b := by
  unfold f_TB_isBloodType at q
  by_cases z1 : f_TB_isBelow x 4 = 0
  · rw [if_pos z1] at q
    exact absurd rfl q
  · rw [if_neg z1] at q
    by_cases z2 : f_TB_isBelow y 2 = 0
    · rw [if_pos z2] at q
      exact absurd rfl q
    · obtain ⟨a, ha, ea⟩ := isB_ex (n := 4) (by decide) z1
      obtain ⟨b, hb, eb⟩ := isB_ex (n := 2) (by decide) z2
      exact ⟨a, b, ha, hb, ea, eb⟩
theorem told_gr {h : ev_H} {c t l : Nat} (I : Inv h c t l) {p : Nat} (hp : p < cP h) (q : gI h 2 p 0 = 1) : gI h 0 21 p / 2 = gI h 2 p 1 ∧ gI h 0 21 p - gI h 0 21 p / 2 * 2 = gI h 2 p 2 := by
  obtain ⟨⟨p1, -⟩, pg, -⟩ := Inv_P I hp
  simp only at p1 pg
  rcases pg with ⟨-, -, -, z⟩ | ⟨a, b, ha, hb, g1, g2, g3⟩
  · rw [p1, z] at q
    exact absurd q (by decide)
  · rw [g1, (gR_of ha hb).2, (gR_of ha hb).1, g2, g3]
    exact ⟨rfl, rfl⟩
theorem rd_p21 {h h1 : ev_H} (e : mE h1 h) {p : Nat} : gI h1 0 21 p = gI h 0 21 p := e 21 p (by decide) (by decide) (fun z => by omega)
theorem rd_now {h h1 : ev_H} {c t l : Nat} (I : Inv h c t l) (e : mE h1 h) : gI h1 0 6 1 = nI t := by rw [e 6 1 (by decide) (by decide) (fun _ => by decide), Inv_t2 I]
theorem rd_hold {h h1 : ev_H} {c t l : Nat} (I : Inv h c t l) (e : mE h1 h) {u : Nat} (hu : u < cU h) : (if 0 < gI h1 0 18 u then gI h1 0 16 u else (if gI h 1 u 8 = 1 then gI h1 0 16 u else -1)) = gI h 1 u 9 := by
  obtain ⟨-, ⟨a1, a2, -⟩, -⟩ := Inv_U I hu
  simp only at a1 a2
  rw [a2, ← a1, e 18 u (by decide) (by decide) (fun z => by omega), e 16 u (by decide) (by decide) (fun z => by omega)]
theorem pr_why_0 {h : ev_H} {c t l : Nat} (I : Inv h c t l) (hc : c < 512) {x1 x2 : Int32} (v0 : f_TB_isBelow x1 (gI h 0 0 4) = 0) : okM (f_LW_why h x1 x2) (f_MO_why_0 ((f_LW_why h x1 x2).2) x1 x2) h c := by
  have eL : f_LW_why h x1 x2 = (1, nx h) := by simp only [f_LW_why, if_pos v0]
  rw [eL]
  exact okM_rf I hc (by decide)
theorem pr_why_10 {h : ev_H} {c t l : Nat} (I : Inv h c t l) (hc : c < 512) {x1 x2 : Int32} (v0 : ¬ f_TB_isBelow x1 (gI h 0 0 4) = 0) (v1 : f_TB_isBelow x2 (gI h 0 0 3) = 0) : okM (f_LW_why h x1 x2) (f_MO_why_10 ((f_LW_why h x1 x2).2) x1 x2) h c := by
  have eL : f_LW_why h x1 x2 = (1, nx h) := by simp only [f_LW_why, if_neg v0, if_pos v1]
  rw [eL]
  exact okM_rf I hc (by decide)
theorem pr_why_11 {h : ev_H} {c t l : Nat} (I : Inv h c t l) (hc : c < 512) {p : Nat} (hp : p < cP h) {u : Nat} (hu : u < cU h) : okM (f_LW_why h (nI p) (nI u)) (f_MO_why_11 ((f_LW_why h (nI p) (nI u)).2) (nI p) (nI u)) h c := by
  have l48 := Inv_48 I
  have l10 := Inv_10 I
  have tb := Inv_tb I
  have cp : (nI p).toNatClampNeg = p := nI_clamp (by omega)
  have vp : ¬ f_TB_isBelow (nI p) (gI h 0 0 4) = 0 := by rw [Inv_m I, isB_mk (by omega) hp]; decide
  have sp := nI_pos (n := p) (by omega)
  have cu : (nI u).toNatClampNeg = u := nI_clamp (by omega)
  have vu : ¬ f_TB_isBelow (nI u) (gI h 0 0 3) = 0 := by rw [Inv_n I, isB_mk (by omega) hu]; decide
  have su := nI_pos (n := u) (by omega)
  have eL : f_LW_why h (nI p) (nI u) = (0, sL h 0 27 0 ((f_RU_reason h p u).toInt64)) := by simp only [f_LW_why, cp, cu, if_neg vp, if_neg vu]
  rw [eL]
  show okM (0, sL h 0 27 0 ((f_RU_reason h p u).toInt64)) (f_MO_why_11 (sL h 0 27 0 ((f_RU_reason h p u).toInt64)) (nI p) (nI u)) h c
  have e : mE (sI (sL h 0 27 0 ((f_RU_reason h p u).toInt64)) 0 6 0 0) h := mE_q
  have eM : f_MO_why_11 (sL h 0 27 0 ((f_RU_reason h p u).toInt64)) (nI p) (nI u) = (f_RU_reason h p u, sI (sL h 0 27 0 ((f_RU_reason h p u).toInt64)) 0 6 0 0) := by simp [f_MO_why_11, cu, ag_state I e hu, ag_ready I e hu, ag_exp I e hu, ag_bar I e hu, rd_u7 I e hu, rd_u8 I e hu, rd_u9 I e hu, rd_u10 I e hu, rd_u11 I e hu, rd_u12 I e hu, rd_u13 I e hu, rd_u14 I e hu, rd_u19 I e hu, rd_u20 I e hu, cp, rd_p22 I e hp, rd_p23 I e hp, rd_p24 I e hp, rd_p25 I e hp, ag_reason I e hp hu, ag_match I e hp hu, refused_0]
  rw [eM]
  exact okM_q I hc rfl
theorem pr_has_0 {h : ev_H} {c t l : Nat} (I : Inv h c t l) (hc : c < 512) {x1 x2 : Int32} (v0 : f_TB_isBelow x1 (gI h 0 0 3) = 0) : okM (f_LW_has h x1 x2) (f_MO_has_0 ((f_LW_has h x1 x2).2) x1 x2) h c := by
  have eL : f_LW_has h x1 x2 = (1, nx h) := by simp only [f_LW_has, if_pos v0]
  rw [eL]
  exact okM_rf I hc (by decide)
theorem pr_has_1 {h : ev_H} {c t l : Nat} (I : Inv h c t l) (hc : c < 512) {u : Nat} (hu : u < cU h) {x2 : Int32} : okM (f_LW_has h (nI u) x2) (f_MO_has_1 ((f_LW_has h (nI u) x2).2) (nI u) x2) h c := by
  have l48 := Inv_48 I
  have l10 := Inv_10 I
  have tb := Inv_tb I
  have cu : (nI u).toNatClampNeg = u := nI_clamp (by omega)
  have vu : ¬ f_TB_isBelow (nI u) (gI h 0 0 3) = 0 := by rw [Inv_n I, isB_mk (by omega) hu]; decide
  have su := nI_pos (n := u) (by omega)
  by_cases q1 : (f_TB_isBelow x2 8) = 0
  · have eL : f_LW_has h (nI u) x2 = (2, nx h) := by simp only [f_LW_has, cu, if_neg vu, if_pos q1]
    have e : mE (nx h) h := mE_sm sm_nx
    have eM : f_MO_has_1 (nx h) (nI u) x2 = (0, sI (nx h) 0 6 0 2) := by simp [f_MO_has_1, m_MO_has_1_29, f_MO_has_1_29, cu, ag_state I e hu, ag_ready I e hu, ag_exp I e hu, ag_bar I e hu, rd_u7 I e hu, rd_u8 I e hu, rd_u9 I e hu, rd_u10 I e hu, rd_u11 I e hu, rd_u12 I e hu, rd_u13 I e hu, rd_u14 I e hu, rd_u19 I e hu, rd_u20 I e hu, in_below (x := x2) (m := 7) (n := 8) (by decide), q1, refused_0, refused_2, refused_3, refused_4, f_MO_refused1]
    rw [eL]
    show okM (2, nx h) (f_MO_has_1 (nx h) (nI u) x2) h c
    rw [eM]
    exact okM_rf I hc (by decide)
  · have eL : f_LW_has h (nI u) x2 = (0, sL h 0 27 0 ((f_UN_antigenValue h u x2).toInt64)) := by simp only [f_LW_has, cu, if_neg vu, if_neg q1]
    rw [eL]
    show okM (0, sL h 0 27 0 ((f_UN_antigenValue h u x2).toInt64)) (f_MO_has_1 (sL h 0 27 0 ((f_UN_antigenValue h u x2).toInt64)) (nI u) x2) h c
    have e : mE (sI (sL h 0 27 0 ((f_UN_antigenValue h u x2).toInt64)) 0 6 0 0) h := mE_q
    obtain ⟨a, ha, ea⟩ := isB_ex (n := 8) (by decide) q1
    have b1 := bit_a (x := gI h 1 u 5) (a := a) (by omega)
    have b2 := bit_a (x := gI h 1 u 6) (a := a) (by omega)
    rw [← ea] at b1 b2
    have eM : f_MO_has_1 (sL h 0 27 0 ((f_UN_antigenValue h u x2).toInt64)) (nI u) x2 = (f_UN_antigenValue h u x2, sI (sL h 0 27 0 ((f_UN_antigenValue h u x2).toInt64)) 0 6 0 0) := by
      simp only [f_MO_has_1, m_MO_has_1_29, f_MO_has_1_29, cu, ag_state I e hu, ag_ready I e hu, ag_exp I e hu, ag_bar I e hu, rd_u7 I e hu, rd_u8 I e hu, rd_u9 I e hu, rd_u10 I e hu, rd_u11 I e hu, rd_u12 I e hu, rd_u13 I e hu, rd_u14 I e hu, rd_u19 I e hu, rd_u20 I e hu, in_below (x := x2) (m := 7) (n := 8) (by decide), q1, refused_0, if_false, if_true, b1, b2]
      simp only [f_UN_antigenValue]
      by_cases z1 : gI h 1 u 5 &&& 1 <<< (x2 &&& 31) = 0 <;> by_cases z2 : gI h 1 u 6 &&& 1 <<< (x2 &&& 31) = 0 <;> simp [z1, z2]
    rw [eM]
    exact okM_q I hc rfl
theorem pr_of_0 {h : ev_H} {c t l : Nat} (I : Inv h c t l) (hc : c < 512) {x1 x2 : Int32} (v0 : f_TB_isBelow x1 (gI h 0 0 3) = 0) : okM (f_LW_of h x1 x2) (f_MO_of_0 ((f_LW_of h x1 x2).2) x1 x2) h c := by
  have eL : f_LW_of h x1 x2 = (1, nx h) := by simp only [f_LW_of, if_pos v0]
  rw [eL]
  exact okM_rf I hc (by decide)
theorem pr_of_1 {h : ev_H} {c t l : Nat} (I : Inv h c t l) (hc : c < 512) {u : Nat} (hu : u < cU h) {x2 : Int32} : okM (f_LW_of h (nI u) x2) (f_MO_of_1 ((f_LW_of h (nI u) x2).2) (nI u) x2) h c := by
  have l48 := Inv_48 I
  have l10 := Inv_10 I
  have tb := Inv_tb I
  have cu : (nI u).toNatClampNeg = u := nI_clamp (by omega)
  have vu : ¬ f_TB_isBelow (nI u) (gI h 0 0 3) = 0 := by rw [Inv_n I, isB_mk (by omega) hu]; decide
  have su := nI_pos (n := u) (by omega)
  by_cases q1 : x2 = 0
  · have eL : f_LW_of h (nI u) x2 = (0, sL h 0 27 0 ((gI h 1 u 8).toInt64)) := by simp only [f_LW_of, cu, if_neg vu, if_pos q1]
    rw [eL]
    show okM (0, sL h 0 27 0 ((gI h 1 u 8).toInt64)) (f_MO_of_1 (sL h 0 27 0 ((gI h 1 u 8).toInt64)) (nI u) x2) h c
    have e : mE (sI (sL h 0 27 0 ((gI h 1 u 8).toInt64)) 0 6 0 0) h := mE_q
    have hin : f_MO_in x2 0 9 = 1 := by
      first | (rw [q1]; decide) | skip
    have eM : f_MO_of_1 (sL h 0 27 0 ((gI h 1 u 8).toInt64)) (nI u) x2 = ((gI h 1 u 8), sI (sL h 0 27 0 ((gI h 1 u 8).toInt64)) 0 6 0 0) := by
      simp only [f_MO_of_1, m_MO_of_1_29, f_MO_of_1_29, hin, n10, if_false, if_true, f_MO_field, cu, ag_state I e hu, ag_ready I e hu, ag_exp I e hu, ag_bar I e hu, rd_u7 I e hu, rd_u8 I e hu, rd_u9 I e hu, rd_u10 I e hu, rd_u11 I e hu, rd_u12 I e hu, rd_u13 I e hu, rd_u14 I e hu, rd_u19 I e hu, rd_u20 I e hu, refused_0, rd_p21 e, rd_hold I e hu]
      simp [q1]
    rw [eM]
    exact okM_q I hc rfl
  · by_cases q2 : x2 = 1
    · have eL : f_LW_of h (nI u) x2 = (0, sL h 0 27 0 ((gI h 1 u 0).toInt64)) := by simp only [f_LW_of, cu, if_neg vu, if_neg q1, if_pos q2]
      rw [eL]
      show okM (0, sL h 0 27 0 ((gI h 1 u 0).toInt64)) (f_MO_of_1 (sL h 0 27 0 ((gI h 1 u 0).toInt64)) (nI u) x2) h c
      have e : mE (sI (sL h 0 27 0 ((gI h 1 u 0).toInt64)) 0 6 0 0) h := mE_q
      have hin : f_MO_in x2 0 9 = 1 := by
        first | (rw [q1]; decide) | (rw [q2]; decide)
      have eM : f_MO_of_1 (sL h 0 27 0 ((gI h 1 u 0).toInt64)) (nI u) x2 = ((gI h 1 u 0), sI (sL h 0 27 0 ((gI h 1 u 0).toInt64)) 0 6 0 0) := by
        simp only [f_MO_of_1, m_MO_of_1_29, f_MO_of_1_29, hin, n10, if_false, if_true, f_MO_field, cu, ag_state I e hu, ag_ready I e hu, ag_exp I e hu, ag_bar I e hu, rd_u7 I e hu, rd_u8 I e hu, rd_u9 I e hu, rd_u10 I e hu, rd_u11 I e hu, rd_u12 I e hu, rd_u13 I e hu, rd_u14 I e hu, rd_u19 I e hu, rd_u20 I e hu, refused_0, rd_p21 e, rd_hold I e hu]
        simp [q1, q2]
      rw [eM]
      exact okM_q I hc rfl
    · by_cases q3 : x2 = 2
      · have eL : f_LW_of h (nI u) x2 = (0, sL h 0 27 0 ((gI h 1 u 1).toInt64)) := by simp only [f_LW_of, cu, if_neg vu, if_neg q1, if_neg q2, if_pos q3]
        rw [eL]
        show okM (0, sL h 0 27 0 ((gI h 1 u 1).toInt64)) (f_MO_of_1 (sL h 0 27 0 ((gI h 1 u 1).toInt64)) (nI u) x2) h c
        have e : mE (sI (sL h 0 27 0 ((gI h 1 u 1).toInt64)) 0 6 0 0) h := mE_q
        have hin : f_MO_in x2 0 9 = 1 := by
          first | (rw [q1]; decide) | (rw [q2]; decide) | (rw [q3]; decide)
        have eM : f_MO_of_1 (sL h 0 27 0 ((gI h 1 u 1).toInt64)) (nI u) x2 = ((gI h 1 u 1), sI (sL h 0 27 0 ((gI h 1 u 1).toInt64)) 0 6 0 0) := by
          simp only [f_MO_of_1, m_MO_of_1_29, f_MO_of_1_29, hin, n10, if_false, if_true, f_MO_field, cu, ag_state I e hu, ag_ready I e hu, ag_exp I e hu, ag_bar I e hu, rd_u7 I e hu, rd_u8 I e hu, rd_u9 I e hu, rd_u10 I e hu, rd_u11 I e hu, rd_u12 I e hu, rd_u13 I e hu, rd_u14 I e hu, rd_u19 I e hu, rd_u20 I e hu, refused_0, rd_p21 e, rd_hold I e hu]
          simp [q1, q2, q3]
        rw [eM]
        exact okM_q I hc rfl
      · by_cases q4 : x2 = 3
        · have eL : f_LW_of h (nI u) x2 = (0, sL h 0 27 0 ((gI h 1 u 2).toInt64)) := by simp only [f_LW_of, cu, if_neg vu, if_neg q1, if_neg q2, if_neg q3, if_pos q4]
          rw [eL]
          show okM (0, sL h 0 27 0 ((gI h 1 u 2).toInt64)) (f_MO_of_1 (sL h 0 27 0 ((gI h 1 u 2).toInt64)) (nI u) x2) h c
          have e : mE (sI (sL h 0 27 0 ((gI h 1 u 2).toInt64)) 0 6 0 0) h := mE_q
          have hin : f_MO_in x2 0 9 = 1 := by
            first | (rw [q1]; decide) | (rw [q2]; decide) | (rw [q3]; decide) | (rw [q4]; decide)
          have eM : f_MO_of_1 (sL h 0 27 0 ((gI h 1 u 2).toInt64)) (nI u) x2 = ((gI h 1 u 2), sI (sL h 0 27 0 ((gI h 1 u 2).toInt64)) 0 6 0 0) := by
            simp only [f_MO_of_1, m_MO_of_1_29, f_MO_of_1_29, hin, n10, if_false, if_true, f_MO_field, cu, ag_state I e hu, ag_ready I e hu, ag_exp I e hu, ag_bar I e hu, rd_u7 I e hu, rd_u8 I e hu, rd_u9 I e hu, rd_u10 I e hu, rd_u11 I e hu, rd_u12 I e hu, rd_u13 I e hu, rd_u14 I e hu, rd_u19 I e hu, rd_u20 I e hu, refused_0, rd_p21 e, rd_hold I e hu]
            simp [q1, q2, q3, q4]
          rw [eM]
          exact okM_q I hc rfl
        · by_cases q5 : x2 = 4
          · have eL : f_LW_of h (nI u) x2 = (0, sL h 0 27 0 ((gI h 1 u 7).toInt64)) := by simp only [f_LW_of, cu, if_neg vu, if_neg q1, if_neg q2, if_neg q3, if_neg q4, if_pos q5]
            rw [eL]
            show okM (0, sL h 0 27 0 ((gI h 1 u 7).toInt64)) (f_MO_of_1 (sL h 0 27 0 ((gI h 1 u 7).toInt64)) (nI u) x2) h c
            have e : mE (sI (sL h 0 27 0 ((gI h 1 u 7).toInt64)) 0 6 0 0) h := mE_q
            have hin : f_MO_in x2 0 9 = 1 := by
              first | (rw [q1]; decide) | (rw [q2]; decide) | (rw [q3]; decide) | (rw [q4]; decide) | (rw [q5]; decide)
            have eM : f_MO_of_1 (sL h 0 27 0 ((gI h 1 u 7).toInt64)) (nI u) x2 = ((gI h 1 u 7), sI (sL h 0 27 0 ((gI h 1 u 7).toInt64)) 0 6 0 0) := by
              simp only [f_MO_of_1, m_MO_of_1_29, f_MO_of_1_29, hin, n10, if_false, if_true, f_MO_field, cu, ag_state I e hu, ag_ready I e hu, ag_exp I e hu, ag_bar I e hu, rd_u7 I e hu, rd_u8 I e hu, rd_u9 I e hu, rd_u10 I e hu, rd_u11 I e hu, rd_u12 I e hu, rd_u13 I e hu, rd_u14 I e hu, rd_u19 I e hu, rd_u20 I e hu, refused_0, rd_p21 e, rd_hold I e hu]
              simp [q1, q2, q3, q4, q5]
            rw [eM]
            exact okM_q I hc rfl
          · by_cases q6 : x2 = 5
            · have eL : f_LW_of h (nI u) x2 = (0, sL h 0 27 0 ((gI h 1 u 4).toInt64)) := by simp only [f_LW_of, cu, if_neg vu, if_neg q1, if_neg q2, if_neg q3, if_neg q4, if_neg q5, if_pos q6]
              rw [eL]
              show okM (0, sL h 0 27 0 ((gI h 1 u 4).toInt64)) (f_MO_of_1 (sL h 0 27 0 ((gI h 1 u 4).toInt64)) (nI u) x2) h c
              have e : mE (sI (sL h 0 27 0 ((gI h 1 u 4).toInt64)) 0 6 0 0) h := mE_q
              have hin : f_MO_in x2 0 9 = 1 := by
                first | (rw [q1]; decide) | (rw [q2]; decide) | (rw [q3]; decide) | (rw [q4]; decide) | (rw [q5]; decide) | (rw [q6]; decide)
              have eM : f_MO_of_1 (sL h 0 27 0 ((gI h 1 u 4).toInt64)) (nI u) x2 = ((gI h 1 u 4), sI (sL h 0 27 0 ((gI h 1 u 4).toInt64)) 0 6 0 0) := by
                simp only [f_MO_of_1, m_MO_of_1_29, f_MO_of_1_29, hin, n10, if_false, if_true, f_MO_field, cu, ag_state I e hu, ag_ready I e hu, ag_exp I e hu, ag_bar I e hu, rd_u7 I e hu, rd_u8 I e hu, rd_u9 I e hu, rd_u10 I e hu, rd_u11 I e hu, rd_u12 I e hu, rd_u13 I e hu, rd_u14 I e hu, rd_u19 I e hu, rd_u20 I e hu, refused_0, rd_p21 e, rd_hold I e hu]
                simp [q1, q2, q3, q4, q5, q6]
              rw [eM]
              exact okM_q I hc rfl
            · by_cases q7 : x2 = 6
              · have eL : f_LW_of h (nI u) x2 = (0, sL h 0 27 0 ((gI h 1 u 9).toInt64)) := by simp only [f_LW_of, cu, if_neg vu, if_neg q1, if_neg q2, if_neg q3, if_neg q4, if_neg q5, if_neg q6, if_pos q7]
                rw [eL]
                show okM (0, sL h 0 27 0 ((gI h 1 u 9).toInt64)) (f_MO_of_1 (sL h 0 27 0 ((gI h 1 u 9).toInt64)) (nI u) x2) h c
                have e : mE (sI (sL h 0 27 0 ((gI h 1 u 9).toInt64)) 0 6 0 0) h := mE_q
                have hin : f_MO_in x2 0 9 = 1 := by
                  first | (rw [q1]; decide) | (rw [q2]; decide) | (rw [q3]; decide) | (rw [q4]; decide) | (rw [q5]; decide) | (rw [q6]; decide) | (rw [q7]; decide)
                have eM : f_MO_of_1 (sL h 0 27 0 ((gI h 1 u 9).toInt64)) (nI u) x2 = ((gI h 1 u 9), sI (sL h 0 27 0 ((gI h 1 u 9).toInt64)) 0 6 0 0) := by
                  simp only [f_MO_of_1, m_MO_of_1_29, f_MO_of_1_29, hin, n10, if_false, if_true, f_MO_field, cu, ag_state I e hu, ag_ready I e hu, ag_exp I e hu, ag_bar I e hu, rd_u7 I e hu, rd_u8 I e hu, rd_u9 I e hu, rd_u10 I e hu, rd_u11 I e hu, rd_u12 I e hu, rd_u13 I e hu, rd_u14 I e hu, rd_u19 I e hu, rd_u20 I e hu, refused_0, rd_p21 e, rd_hold I e hu]
                  simp [q1, q2, q3, q4, q5, q6, q7]
                rw [eM]
                exact okM_q I hc rfl
              · by_cases q8 : x2 = 7
                · by_cases q9 : (f_UN_isBarred h u (gI h 0 0 6)) = 0
                  · have eL : f_LW_of h (nI u) x2 = (0, sL h 0 27 0 ((0 : Int32).toInt64)) := by simp only [f_LW_of, cu, if_neg vu, if_neg q1, if_neg q2, if_neg q3, if_neg q4, if_neg q5, if_neg q6, if_neg q7, if_pos q8, if_pos q9]
                    rw [eL]
                    show okM (0, sL h 0 27 0 ((0 : Int32).toInt64)) (f_MO_of_1 (sL h 0 27 0 ((0 : Int32).toInt64)) (nI u) x2) h c
                    have e : mE (sI (sL h 0 27 0 ((0 : Int32).toInt64)) 0 6 0 0) h := mE_q
                    have hin : f_MO_in x2 0 9 = 1 := by
                      first | (rw [q1]; decide) | (rw [q2]; decide) | (rw [q3]; decide) | (rw [q4]; decide) | (rw [q5]; decide) | (rw [q6]; decide) | (rw [q7]; decide) | (rw [q8]; decide) | (rw [q9]; decide)
                    have eM : f_MO_of_1 (sL h 0 27 0 ((0 : Int32).toInt64)) (nI u) x2 = ((0 : Int32), sI (sL h 0 27 0 ((0 : Int32).toInt64)) 0 6 0 0) := by
                      simp only [f_MO_of_1, m_MO_of_1_29, f_MO_of_1_29, hin, n10, if_false, if_true, f_MO_field, cu, ag_state I e hu, ag_ready I e hu, ag_exp I e hu, ag_bar I e hu, rd_u7 I e hu, rd_u8 I e hu, rd_u9 I e hu, rd_u10 I e hu, rd_u11 I e hu, rd_u12 I e hu, rd_u13 I e hu, rd_u14 I e hu, rd_u19 I e hu, rd_u20 I e hu, refused_0, rd_p21 e, rd_hold I e hu]
                      simp [q1, q2, q3, q4, q5, q6, q7, q8, q9]
                    rw [eM]
                    exact okM_q I hc rfl
                  · have eL : f_LW_of h (nI u) x2 = (0, sL h 0 27 0 ((1 : Int32).toInt64)) := by simp only [f_LW_of, cu, if_neg vu, if_neg q1, if_neg q2, if_neg q3, if_neg q4, if_neg q5, if_neg q6, if_neg q7, if_pos q8, if_neg q9]
                    rw [eL]
                    show okM (0, sL h 0 27 0 ((1 : Int32).toInt64)) (f_MO_of_1 (sL h 0 27 0 ((1 : Int32).toInt64)) (nI u) x2) h c
                    have e : mE (sI (sL h 0 27 0 ((1 : Int32).toInt64)) 0 6 0 0) h := mE_q
                    have hin : f_MO_in x2 0 9 = 1 := by
                      first | (rw [q1]; decide) | (rw [q2]; decide) | (rw [q3]; decide) | (rw [q4]; decide) | (rw [q5]; decide) | (rw [q6]; decide) | (rw [q7]; decide) | (rw [q8]; decide) | (rw [q9]; decide)
                    have eM : f_MO_of_1 (sL h 0 27 0 ((1 : Int32).toInt64)) (nI u) x2 = ((1 : Int32), sI (sL h 0 27 0 ((1 : Int32).toInt64)) 0 6 0 0) := by
                      simp only [f_MO_of_1, m_MO_of_1_29, f_MO_of_1_29, hin, n10, if_false, if_true, f_MO_field, cu, ag_state I e hu, ag_ready I e hu, ag_exp I e hu, ag_bar I e hu, rd_u7 I e hu, rd_u8 I e hu, rd_u9 I e hu, rd_u10 I e hu, rd_u11 I e hu, rd_u12 I e hu, rd_u13 I e hu, rd_u14 I e hu, rd_u19 I e hu, rd_u20 I e hu, refused_0, rd_p21 e, rd_hold I e hu]
                      simp [q1, q2, q3, q4, q5, q6, q7, q8, q9]
                    rw [eM]
                    exact okM_q I hc rfl
                · by_cases q10 : x2 = 8
                  · have eL : f_LW_of h (nI u) x2 = (0, sL h 0 27 0 ((gI h 1 u 13).toInt64)) := by simp only [f_LW_of, cu, if_neg vu, if_neg q1, if_neg q2, if_neg q3, if_neg q4, if_neg q5, if_neg q6, if_neg q7, if_neg q8, if_pos q10]
                    rw [eL]
                    show okM (0, sL h 0 27 0 ((gI h 1 u 13).toInt64)) (f_MO_of_1 (sL h 0 27 0 ((gI h 1 u 13).toInt64)) (nI u) x2) h c
                    have e : mE (sI (sL h 0 27 0 ((gI h 1 u 13).toInt64)) 0 6 0 0) h := mE_q
                    have hin : f_MO_in x2 0 9 = 1 := by
                      first | (rw [q1]; decide) | (rw [q2]; decide) | (rw [q3]; decide) | (rw [q4]; decide) | (rw [q5]; decide) | (rw [q6]; decide) | (rw [q7]; decide) | (rw [q8]; decide) | (rw [q10]; decide)
                    have eM : f_MO_of_1 (sL h 0 27 0 ((gI h 1 u 13).toInt64)) (nI u) x2 = ((gI h 1 u 13), sI (sL h 0 27 0 ((gI h 1 u 13).toInt64)) 0 6 0 0) := by
                      simp only [f_MO_of_1, m_MO_of_1_29, f_MO_of_1_29, hin, n10, if_false, if_true, f_MO_field, cu, ag_state I e hu, ag_ready I e hu, ag_exp I e hu, ag_bar I e hu, rd_u7 I e hu, rd_u8 I e hu, rd_u9 I e hu, rd_u10 I e hu, rd_u11 I e hu, rd_u12 I e hu, rd_u13 I e hu, rd_u14 I e hu, rd_u19 I e hu, rd_u20 I e hu, refused_0, rd_p21 e, rd_hold I e hu]
                      simp [q1, q2, q3, q4, q5, q6, q7, q8, q10]
                    rw [eM]
                    exact okM_q I hc rfl
                  · by_cases q11 : x2 = 9
                    · have eL : f_LW_of h (nI u) x2 = (0, sL h 0 27 0 ((gI h 1 u 14).toInt64)) := by simp only [f_LW_of, cu, if_neg vu, if_neg q1, if_neg q2, if_neg q3, if_neg q4, if_neg q5, if_neg q6, if_neg q7, if_neg q8, if_neg q10, if_pos q11]
                      rw [eL]
                      show okM (0, sL h 0 27 0 ((gI h 1 u 14).toInt64)) (f_MO_of_1 (sL h 0 27 0 ((gI h 1 u 14).toInt64)) (nI u) x2) h c
                      have e : mE (sI (sL h 0 27 0 ((gI h 1 u 14).toInt64)) 0 6 0 0) h := mE_q
                      have hin : f_MO_in x2 0 9 = 1 := by
                        first | (rw [q1]; decide) | (rw [q2]; decide) | (rw [q3]; decide) | (rw [q4]; decide) | (rw [q5]; decide) | (rw [q6]; decide) | (rw [q7]; decide) | (rw [q8]; decide) | (rw [q10]; decide) | (rw [q11]; decide)
                      have eM : f_MO_of_1 (sL h 0 27 0 ((gI h 1 u 14).toInt64)) (nI u) x2 = ((gI h 1 u 14), sI (sL h 0 27 0 ((gI h 1 u 14).toInt64)) 0 6 0 0) := by
                        simp only [f_MO_of_1, m_MO_of_1_29, f_MO_of_1_29, hin, n10, if_false, if_true, f_MO_field, cu, ag_state I e hu, ag_ready I e hu, ag_exp I e hu, ag_bar I e hu, rd_u7 I e hu, rd_u8 I e hu, rd_u9 I e hu, rd_u10 I e hu, rd_u11 I e hu, rd_u12 I e hu, rd_u13 I e hu, rd_u14 I e hu, rd_u19 I e hu, rd_u20 I e hu, refused_0, rd_p21 e, rd_hold I e hu]
                        simp [q1, q2, q3, q4, q5, q6, q7, q8, q10, q11]
                      rw [eM]
                      exact okM_q I hc rfl
                    · have hin : f_MO_in x2 0 9 = 0 := in_no (n := 9) (by decide) (fun j hj ej => by
                        have : j = 0 ∨ j = 1 ∨ j = 2 ∨ j = 3 ∨ j = 4 ∨ j = 5 ∨ j = 6 ∨ j = 7 ∨ j = 8 ∨ j = 9 := by omega
                        rcases this with rfl | rfl | rfl | rfl | rfl | rfl | rfl | rfl | rfl | rfl
                        · exact q1 ej
                        · exact q2 ej
                        · exact q3 ej
                        · exact q4 ej
                        · exact q5 ej
                        · exact q6 ej
                        · exact q7 ej
                        · exact q8 ej
                        · exact q10 ej
                        · exact q11 ej)
                      have eL : f_LW_of h (nI u) x2 = (2, nx h) := by simp only [f_LW_of, cu, if_neg vu, if_neg q1, if_neg q2, if_neg q3, if_neg q4, if_neg q5, if_neg q6, if_neg q7, if_neg q8, if_neg q10, if_neg q11]
                      have e : mE (nx h) h := mE_sm sm_nx
                      have eM : f_MO_of_1 (nx h) (nI u) x2 = (0, sI (nx h) 0 6 0 2) := by simp [f_MO_of_1, m_MO_of_1_29, f_MO_of_1_29, cu, ag_state I e hu, ag_ready I e hu, ag_exp I e hu, ag_bar I e hu, rd_u7 I e hu, rd_u8 I e hu, rd_u9 I e hu, rd_u10 I e hu, rd_u11 I e hu, rd_u12 I e hu, rd_u13 I e hu, rd_u14 I e hu, rd_u19 I e hu, rd_u20 I e hu, hin, q1, q2, q3, q4, q5, q6, q7, q8, q10, q11, refused_0, refused_2, refused_3, refused_4, f_MO_refused1]
                      rw [eL]
                      show okM (2, nx h) (f_MO_of_1 (nx h) (nI u) x2) h c
                      rw [eM]
                      exact okM_rf I hc (by decide)
theorem pr_who_0 {h : ev_H} {c t l : Nat} (I : Inv h c t l) (hc : c < 512) {x1 x2 : Int32} (v0 : f_TB_isBelow x1 (gI h 0 0 4) = 0) : okM (f_LW_who h x1 x2) (f_MO_who_0 ((f_LW_who h x1 x2).2) x1 x2) h c := by
  have eL : f_LW_who h x1 x2 = (1, nx h) := by simp only [f_LW_who, if_pos v0]
  rw [eL]
  exact okM_rf I hc (by decide)
theorem pr_who_1 {h : ev_H} {c t l : Nat} (I : Inv h c t l) (hc : c < 512) {p : Nat} (hp : p < cP h) {x2 : Int32} : okM (f_LW_who h (nI p) x2) (f_MO_who_1 ((f_LW_who h (nI p) x2).2) (nI p) x2) h c := by
  have l48 := Inv_48 I
  have l10 := Inv_10 I
  have tb := Inv_tb I
  have cp : (nI p).toNatClampNeg = p := nI_clamp (by omega)
  have vp : ¬ f_TB_isBelow (nI p) (gI h 0 0 4) = 0 := by rw [Inv_m I, isB_mk (by omega) hp]; decide
  have sp := nI_pos (n := p) (by omega)
  by_cases q1 : x2 = 0
  · have eL : f_LW_who h (nI p) x2 = (0, sL h 0 27 0 ((gI h 2 p 0).toInt64)) := by simp only [f_LW_who, cp, if_neg vp, if_pos q1]
    rw [eL]
    show okM (0, sL h 0 27 0 ((gI h 2 p 0).toInt64)) (f_MO_who_1 (sL h 0 27 0 ((gI h 2 p 0).toInt64)) (nI p) x2) h c
    have e : mE (sI (sL h 0 27 0 ((gI h 2 p 0).toInt64)) 0 6 0 0) h := mE_q
    have hin : f_MO_in x2 0 4 = 1 := by
      first | (rw [q1]; decide)
    have eM : f_MO_who_1 (sL h 0 27 0 ((gI h 2 p 0).toInt64)) (nI p) x2 = ((gI h 2 p 0), sI (sL h 0 27 0 ((gI h 2 p 0).toInt64)) 0 6 0 0) := by
      simp only [f_MO_who_1, m_MO_who_1_28, f_MO_who_1_28, hin, n10, if_false, if_true, cp, rd_p22 I e hp, rd_p23 I e hp, rd_p24 I e hp, rd_p25 I e hp, refused_0, rd_p21 e]
      first | (simp [q1]; done) | (have w := told_gr I hp (by assumption); simp [q1, w.1]; done) | (have w := told_gr I hp (by assumption); simp [q1, w.2])
    rw [eM]
    exact okM_q I hc rfl
  · by_cases q2 : x2 = 1
    · by_cases q3 : (gI h 2 p 0) = 1
      · have eL : f_LW_who h (nI p) x2 = (0, sL h 0 27 0 ((gI h 2 p 1).toInt64)) := by simp only [f_LW_who, cp, if_neg vp, if_neg q1, if_pos q2, if_pos q3]
        rw [eL]
        show okM (0, sL h 0 27 0 ((gI h 2 p 1).toInt64)) (f_MO_who_1 (sL h 0 27 0 ((gI h 2 p 1).toInt64)) (nI p) x2) h c
        have e : mE (sI (sL h 0 27 0 ((gI h 2 p 1).toInt64)) 0 6 0 0) h := mE_q
        have hin : f_MO_in x2 0 4 = 1 := by
          first | (rw [q1]; decide) | (rw [q2]; decide) | (rw [q3]; decide)
        have eM : f_MO_who_1 (sL h 0 27 0 ((gI h 2 p 1).toInt64)) (nI p) x2 = ((gI h 2 p 1), sI (sL h 0 27 0 ((gI h 2 p 1).toInt64)) 0 6 0 0) := by
          simp only [f_MO_who_1, m_MO_who_1_28, f_MO_who_1_28, hin, n10, if_false, if_true, cp, rd_p22 I e hp, rd_p23 I e hp, rd_p24 I e hp, rd_p25 I e hp, refused_0, rd_p21 e]
          first | (simp [q1, q2, q3]; done) | (have w := told_gr I hp (by assumption); simp [q1, q2, q3, w.1]; done) | (have w := told_gr I hp (by assumption); simp [q1, q2, q3, w.2])
        rw [eM]
        exact okM_q I hc rfl
      · have eL : f_LW_who h (nI p) x2 = (0, sL h 0 27 0 ((-1 : Int32).toInt64)) := by simp only [f_LW_who, cp, if_neg vp, if_neg q1, if_pos q2, if_neg q3]
        rw [eL]
        show okM (0, sL h 0 27 0 ((-1 : Int32).toInt64)) (f_MO_who_1 (sL h 0 27 0 ((-1 : Int32).toInt64)) (nI p) x2) h c
        have e : mE (sI (sL h 0 27 0 ((-1 : Int32).toInt64)) 0 6 0 0) h := mE_q
        have hin : f_MO_in x2 0 4 = 1 := by
          first | (rw [q1]; decide) | (rw [q2]; decide) | (rw [q3]; decide)
        have eM : f_MO_who_1 (sL h 0 27 0 ((-1 : Int32).toInt64)) (nI p) x2 = ((-1), sI (sL h 0 27 0 ((-1 : Int32).toInt64)) 0 6 0 0) := by
          simp only [f_MO_who_1, m_MO_who_1_28, f_MO_who_1_28, hin, n10, if_false, if_true, cp, rd_p22 I e hp, rd_p23 I e hp, rd_p24 I e hp, rd_p25 I e hp, refused_0, rd_p21 e]
          first | (simp [q1, q2, q3]; done) | (have w := told_gr I hp (by assumption); simp [q1, q2, q3, w.1]; done) | (have w := told_gr I hp (by assumption); simp [q1, q2, q3, w.2])
        rw [eM]
        exact okM_q I hc rfl
    · by_cases q4 : x2 = 2
      · by_cases q5 : (gI h 2 p 0) = 1
        · have eL : f_LW_who h (nI p) x2 = (0, sL h 0 27 0 ((gI h 2 p 2).toInt64)) := by simp only [f_LW_who, cp, if_neg vp, if_neg q1, if_neg q2, if_pos q4, if_pos q5]
          rw [eL]
          show okM (0, sL h 0 27 0 ((gI h 2 p 2).toInt64)) (f_MO_who_1 (sL h 0 27 0 ((gI h 2 p 2).toInt64)) (nI p) x2) h c
          have e : mE (sI (sL h 0 27 0 ((gI h 2 p 2).toInt64)) 0 6 0 0) h := mE_q
          have hin : f_MO_in x2 0 4 = 1 := by
            first | (rw [q1]; decide) | (rw [q2]; decide) | (rw [q4]; decide) | (rw [q5]; decide)
          have eM : f_MO_who_1 (sL h 0 27 0 ((gI h 2 p 2).toInt64)) (nI p) x2 = ((gI h 2 p 2), sI (sL h 0 27 0 ((gI h 2 p 2).toInt64)) 0 6 0 0) := by
            simp only [f_MO_who_1, m_MO_who_1_28, f_MO_who_1_28, hin, n10, if_false, if_true, cp, rd_p22 I e hp, rd_p23 I e hp, rd_p24 I e hp, rd_p25 I e hp, refused_0, rd_p21 e]
            first | (simp [q1, q2, q4, q5]; done) | (have w := told_gr I hp (by assumption); simp [q1, q2, q4, q5, w.1]; done) | (have w := told_gr I hp (by assumption); simp [q1, q2, q4, q5, w.2])
          rw [eM]
          exact okM_q I hc rfl
        · have eL : f_LW_who h (nI p) x2 = (0, sL h 0 27 0 ((-1 : Int32).toInt64)) := by simp only [f_LW_who, cp, if_neg vp, if_neg q1, if_neg q2, if_pos q4, if_neg q5]
          rw [eL]
          show okM (0, sL h 0 27 0 ((-1 : Int32).toInt64)) (f_MO_who_1 (sL h 0 27 0 ((-1 : Int32).toInt64)) (nI p) x2) h c
          have e : mE (sI (sL h 0 27 0 ((-1 : Int32).toInt64)) 0 6 0 0) h := mE_q
          have hin : f_MO_in x2 0 4 = 1 := by
            first | (rw [q1]; decide) | (rw [q2]; decide) | (rw [q4]; decide) | (rw [q5]; decide)
          have eM : f_MO_who_1 (sL h 0 27 0 ((-1 : Int32).toInt64)) (nI p) x2 = ((-1), sI (sL h 0 27 0 ((-1 : Int32).toInt64)) 0 6 0 0) := by
            simp only [f_MO_who_1, m_MO_who_1_28, f_MO_who_1_28, hin, n10, if_false, if_true, cp, rd_p22 I e hp, rd_p23 I e hp, rd_p24 I e hp, rd_p25 I e hp, refused_0, rd_p21 e]
            first | (simp [q1, q2, q4, q5]; done) | (have w := told_gr I hp (by assumption); simp [q1, q2, q4, q5, w.1]; done) | (have w := told_gr I hp (by assumption); simp [q1, q2, q4, q5, w.2])
          rw [eM]
          exact okM_q I hc rfl
      · by_cases q6 : x2 = 3
        · have eL : f_LW_who h (nI p) x2 = (0, sL h 0 27 0 ((gI h 2 p 4).toInt64)) := by simp only [f_LW_who, cp, if_neg vp, if_neg q1, if_neg q2, if_neg q4, if_pos q6]
          rw [eL]
          show okM (0, sL h 0 27 0 ((gI h 2 p 4).toInt64)) (f_MO_who_1 (sL h 0 27 0 ((gI h 2 p 4).toInt64)) (nI p) x2) h c
          have e : mE (sI (sL h 0 27 0 ((gI h 2 p 4).toInt64)) 0 6 0 0) h := mE_q
          have hin : f_MO_in x2 0 4 = 1 := by
            first | (rw [q1]; decide) | (rw [q2]; decide) | (rw [q4]; decide) | (rw [q6]; decide)
          have eM : f_MO_who_1 (sL h 0 27 0 ((gI h 2 p 4).toInt64)) (nI p) x2 = ((gI h 2 p 4), sI (sL h 0 27 0 ((gI h 2 p 4).toInt64)) 0 6 0 0) := by
            simp only [f_MO_who_1, m_MO_who_1_28, f_MO_who_1_28, hin, n10, if_false, if_true, cp, rd_p22 I e hp, rd_p23 I e hp, rd_p24 I e hp, rd_p25 I e hp, refused_0, rd_p21 e]
            first | (simp [q1, q2, q4, q6]; done) | (have w := told_gr I hp (by assumption); simp [q1, q2, q4, q6, w.1]; done) | (have w := told_gr I hp (by assumption); simp [q1, q2, q4, q6, w.2])
          rw [eM]
          exact okM_q I hc rfl
        · by_cases q7 : x2 = 4
          · have eL : f_LW_who h (nI p) x2 = (0, sL h 0 27 0 ((gI h 2 p 5).toInt64)) := by simp only [f_LW_who, cp, if_neg vp, if_neg q1, if_neg q2, if_neg q4, if_neg q6, if_pos q7]
            rw [eL]
            show okM (0, sL h 0 27 0 ((gI h 2 p 5).toInt64)) (f_MO_who_1 (sL h 0 27 0 ((gI h 2 p 5).toInt64)) (nI p) x2) h c
            have e : mE (sI (sL h 0 27 0 ((gI h 2 p 5).toInt64)) 0 6 0 0) h := mE_q
            have hin : f_MO_in x2 0 4 = 1 := by
              first | (rw [q1]; decide) | (rw [q2]; decide) | (rw [q4]; decide) | (rw [q6]; decide) | (rw [q7]; decide)
            have eM : f_MO_who_1 (sL h 0 27 0 ((gI h 2 p 5).toInt64)) (nI p) x2 = ((gI h 2 p 5), sI (sL h 0 27 0 ((gI h 2 p 5).toInt64)) 0 6 0 0) := by
              simp only [f_MO_who_1, m_MO_who_1_28, f_MO_who_1_28, hin, n10, if_false, if_true, cp, rd_p22 I e hp, rd_p23 I e hp, rd_p24 I e hp, rd_p25 I e hp, refused_0, rd_p21 e]
              first | (simp [q1, q2, q4, q6, q7]; done) | (have w := told_gr I hp (by assumption); simp [q1, q2, q4, q6, q7, w.1]; done) | (have w := told_gr I hp (by assumption); simp [q1, q2, q4, q6, q7, w.2])
            rw [eM]
            exact okM_q I hc rfl
          · have hin : f_MO_in x2 0 4 = 0 := in_no (n := 4) (by decide) (fun j hj ej => by
              have : j = 0 ∨ j = 1 ∨ j = 2 ∨ j = 3 ∨ j = 4 := by omega
              rcases this with rfl | rfl | rfl | rfl | rfl
              · exact q1 ej
              · exact q2 ej
              · exact q4 ej
              · exact q6 ej
              · exact q7 ej)
            have eL : f_LW_who h (nI p) x2 = (2, nx h) := by simp only [f_LW_who, cp, if_neg vp, if_neg q1, if_neg q2, if_neg q4, if_neg q6, if_neg q7]
            have e : mE (nx h) h := mE_sm sm_nx
            have eM : f_MO_who_1 (nx h) (nI p) x2 = (0, sI (nx h) 0 6 0 2) := by simp [f_MO_who_1, m_MO_who_1_28, f_MO_who_1_28, cp, rd_p22 I e hp, rd_p23 I e hp, rd_p24 I e hp, rd_p25 I e hp, hin, q1, q2, q4, q6, q7, refused_0, refused_2, refused_3, refused_4, f_MO_refused1]
            rw [eL]
            show okM (2, nx h) (f_MO_who_1 (nx h) (nI p) x2) h c
            rw [eM]
            exact okM_rf I hc (by decide)
