/-! calls that write of patients (by program) -/
theorem sI_id {h : ev_H} {k i j : Nat} : sI h k i j (gI h k i j) = h := by
  refine Prod.ext ?_ rfl
  funext a b c
  show (if a = k ∧ b = i ∧ c = j then gI h k i j else h.1 a b c) = h.1 a b c
  by_cases q : a = k ∧ b = i ∧ c = j
  · obtain ⟨rfl, rfl, rfl⟩ := q
    rw [if_pos ⟨rfl, rfl, rfl⟩]
    rfl
  · rw [if_neg q]
theorem tw_add {a b : Nat} : (2 : Int32) * nI a + nI b = nI (2 * a + b) := by
  have z : (2 : Int32) = nI 2 := by decide
  rw [z, nI, nI, nI, nI, ← Int32.ofNat_mul, ← Int32.ofNat_add]
theorem bits_a {k a : Nat} (hk : k < 256) (ha : a < 8) : ∃ j, j < 256 ∧ nI k ||| 1 <<< (nI a &&& 31) = nI j := by
  have e : ∀ k, k < 256 → ∀ a, a < 8 → (nI k ||| 1 <<< (nI a &&& 31)).toNatClampNeg < 256 ∧ nI k ||| 1 <<< (nI a &&& 31) = nI (nI k ||| 1 <<< (nI a &&& 31)).toNatClampNeg := by decide +kernel
  exact ⟨_, e k hk a ha⟩
theorem bits_c {k : Nat} {h : ev_H} (hk : k < 256) : f_MO_bitsOf h (nI k) = f_JI_bitCount (nI k) := by
  have e : ∀ k, k < 256 → f_MO_bitsOf h00 (nI k) = f_JI_bitCount (nI k) := by decide +kernel
  have e2 : ∀ n, r_MO_bitsOf_L4 h (nI k) n = r_MO_bitsOf_L4 h00 (nI k) n := by
    intro n
    induction n with
    | zero => rfl
    | succ n ih => rw [r_MO_bitsOf_L4, r_MO_bitsOf_L4, ih]
  rw [← e k hk, f_MO_bitsOf, f_MO_bitsOf, e2]
theorem bl_i {x : Int32} {n : Nat} : (if ¬ x = 0 then n else n) = n := ite_self _
/-- the state of a patient after a sample -/
def ns_s (h : ev_H) (p : Nat) (x y : Int32) : Int32 := if gI h 2 p 1 = -1 then gI h 2 p 0 else (if gI h 2 p 1 = x then (if gI h 2 p 2 = y then 1 else 2) else 2)
theorem ns_h {h : ev_H} {p : Nat} {x y z : Int32} : m_PA_takeSample_33 h p x y z = sI h 2 p 0 (ns_s h p x y) := by
  unfold m_PA_takeSample_33 ns_s
  by_cases a : gI h 2 p 1 = -1
  · rw [if_pos a, if_pos a, sI_id]
  · rw [if_neg a, if_neg a]
    by_cases b : gI h 2 p 1 = x
    · rw [if_pos b, if_pos b]
      by_cases c : gI h 2 p 2 = y
      · rw [if_pos c, if_pos c]
      · rw [if_neg c, if_neg c]
    · rw [if_neg b, if_neg b]
theorem ns_m {h : ev_H} {c t l : Nat} (I : Inv h c t l) {p : Nat} (hp : p < cP h) {a b : Nat} (ha : a < 4) (hb : b < 2) : (if 0 ≤ gI h 0 21 p then (if gI h 0 21 p = nI (2 * a + b) then (1 : Int32) else 2) else 0) = ns_s h p (nI a) (nI b) := by
  obtain ⟨⟨p1, -⟩, pg, -⟩ := Inv_P I hp
  simp only at p1 pg
  unfold ns_s
  rcases pg with ⟨g1, g2, g3, g4⟩ | ⟨a', b', ha', hb', g1, g2, g3⟩
  · rw [g1, g2, p1, g4]
    rfl
  · have n1 : ¬ nI a' = -1 := fun z => by
      have w := nI_pos (n := a') (by omega)
      rw [z] at w
      exact w (by decide)
    rw [g1, g2, g3, if_pos (nI_pos' (by omega)), if_neg n1]
    simp only [nI_eq (show 2 * a' + b' < 2 ^ 31 by omega) (show 2 * a + b < 2 ^ 31 by omega), nI_eq (show a' < 2 ^ 31 by omega) (show a < 2 ^ 31 by omega), nI_eq (show b' < 2 ^ 31 by omega) (show b < 2 ^ 31 by omega)]
    by_cases z1 : a' = a
    · by_cases z2 : b' = b
      · have z3 : 2 * a' + b' = 2 * a + b := by omega
        rw [if_pos z3, if_pos z1, if_pos z2]
      · have z3 : ¬ 2 * a' + b' = 2 * a + b := by omega
        rw [if_neg z3, if_pos z1, if_neg z2]
    · have z3 : ¬ 2 * a' + b' = 2 * a + b := by omega
      rw [if_neg z3, if_neg z1]
theorem cx_48 {p u : Nat} (hp : p < 10) (hu : u < 48) : ((48 : Int32) * nI p + nI u).toNatClampNeg = 48 * p + u := by
  have z : (48 : Int32) = nI 48 := by decide
  have e48 : (48 : Int32) * nI p + nI u = nI (48 * p + u) := by rw [z, nI, nI, nI, nI, ← Int32.ofNat_mul, ← Int32.ofNat_add]
  rw [e48, nI_clamp (by omega)]
theorem pr_need_0 {h : ev_H} {c t l : Nat} (I : Inv h c t l) (hc : c < 512) {x1 x2 : Int32} (v0 : f_TB_isBelow x1 (gI h 0 0 4) = 0) : okM (f_LW_need h x1 x2) (f_MO_need_0 ((f_LW_need h x1 x2).2) x1 x2) h c := by
  have eL : f_LW_need h x1 x2 = (1, nx h) := by simp only [f_LW_need, if_pos v0]
  rw [eL]
  exact okM_rf I hc (by decide)
theorem pr_need_1 {h : ev_H} {c t l : Nat} (I : Inv h c t l) (hc : c < 512) {p : Nat} (hp : p < cP h) {x2 : Int32} : okM (f_LW_need h (nI p) x2) (f_MO_need_1 ((f_LW_need h (nI p) x2).2) (nI p) x2) h c := by
  have l48 := Inv_48 I
  have l10 := Inv_10 I
  have tb := Inv_tb I
  have cp : (nI p).toNatClampNeg = p := nI_clamp (by omega)
  have vp : ¬ f_TB_isBelow (nI p) (gI h 0 0 4) = 0 := by rw [Inv_m I, isB_mk (by omega) hp]; decide
  have sp := nI_pos (n := p) (by omega)
  by_cases q1 : x2 < 0
  · have eL : f_LW_need h (nI p) x2 = ((2 : Int32), nx h) := by simp only [f_LW_need, cp, if_neg vp, if_pos q1]
    have e : mE (nx h) h := mE_sm sm_nx
    have eM : f_MO_need_1 (nx h) (nI p) x2 = (0, sI (nx h) 0 6 0 2) := by simp [f_MO_need_1, m_MO_need_1_29, f_MO_need_1_29, cp, rd_p22 I e hp, rd_p23 I e hp, rd_p24 I e hp, rd_p25 I e hp, in_lo q1, q1, refused_0, refused_2, refused_3, refused_4, f_MO_refused1]
    rw [eL]
    show okM (2, nx h) (f_MO_need_1 (nx h) (nI p) x2) h c
    rw [eM]
    exact okM_rf I hc (by decide)
  · by_cases q2 : x2 ≤ 7
    · have eL : f_LW_need h (nI p) x2 = ((0 : Int32), sL (sI h 2 p 5 x2) 0 27 0 ((gI h 2 p 5).toInt64)) := by simp only [f_LW_need, cp, if_neg vp, if_neg q1, if_pos q2]
      rw [eL]
      show okM (0, sL (sI h 2 p 5 x2) 0 27 0 ((gI h 2 p 5).toInt64)) (f_MO_need_1 (sL (sI h 2 p 5 x2) 0 27 0 ((gI h 2 p 5).toInt64)) (nI p) x2) h c
      have e0 : mE (sL (sI h 2 p 5 x2) 0 27 0 ((gI h 2 p 5).toInt64)) h := fun a b x y z => by simp (disch := omega) only [gI_ne, gI_eq, gI_sL, gI_nx]
      have e : mE (sI (sL (sI h 2 p 5 x2) 0 27 0 ((gI h 2 p 5).toInt64)) 0 6 0 0) h := fun a b x y z => by simp (disch := omega) only [gI_ne, gI_eq, gI_sL, gI_nx]
      have eM : f_MO_need_1 (sL (sI h 2 p 5 x2) 0 27 0 ((gI h 2 p 5).toInt64)) (nI p) x2 = (gI h 2 p 5, sI (sI (sL (sI h 2 p 5 x2) 0 27 0 ((gI h 2 p 5).toInt64)) 0 6 0 0) 0 25 p x2) := by simp [f_MO_need_1, m_MO_need_1_29, f_MO_need_1_29, cp, rd_p22 I e hp, rd_p23 I e hp, rd_p24 I e hp, rd_p25 I e hp, rd_p22 I e0 hp, rd_p23 I e0 hp, rd_p24 I e0 hp, rd_p25 I e0 hp, rd_p22 I (mE_rf (h := h)) hp, rd_p23 I (mE_rf (h := h)) hp, rd_p24 I (mE_rf (h := h)) hp, rd_p25 I (mE_rf (h := h)) hp, q1, q2, refused_0, in_1 q1 q2]
      rw [eM]
      refine ⟨⟨e0, rfs_R (h := h) (fun _ _ _ => rfl) (Inv_R I)⟩, rfl, fun _ => by simp only [gL_sI, gL_sL]; exact lg_self _, t, l, Inv_pat I hc hp (fun k i j v a b => by unfold vis at v; simp (disch := omega) only [gI_ne, gI_eq, gI_sL, gI_nx]) (fun _ _ _ => rfl) rfl (by simp only [cZ_sI, cZ_sL]; omega) ?_⟩
      obtain ⟨⟨p1, p2, p3, p4⟩, pg, pk⟩ := Inv_P I hp
      simp only at p1 p2 p3 p4 pg pk
      unfold PJ
      simp (disch := omega) only [gI_ne, gI_eq, gI_sL, gI_nx]
      exact ⟨⟨p1, p2, p3, trivial⟩, pg, pk⟩
    · have eL : f_LW_need h (nI p) x2 = ((2 : Int32), nx h) := by simp only [f_LW_need, cp, if_neg vp, if_neg q1, if_neg q2]
      have e : mE (nx h) h := mE_sm sm_nx
      have eM : f_MO_need_1 (nx h) (nI p) x2 = (0, sI (nx h) 0 6 0 2) := by simp [f_MO_need_1, m_MO_need_1_29, f_MO_need_1_29, cp, rd_p22 I e hp, rd_p23 I e hp, rd_p24 I e hp, rd_p25 I e hp, in_hi q2, q1, q2, refused_0, refused_2, refused_3, refused_4, f_MO_refused1]
      rw [eL]
      show okM (2, nx h) (f_MO_need_1 (nx h) (nI p) x2) h c
      rw [eM]
      exact okM_rf I hc (by decide)
theorem pr_unlock_0 {h : ev_H} {c t l : Nat} (I : Inv h c t l) (hc : c < 512) {x1 x2 x3 : Int32} (v0 : f_TB_isBelow x1 (gI h 0 0 4) = 0) : okV (f_LW_unlock h x1 x2 x3) (f_MO_unlock_0 ((f_LW_unlock h x1 x2 x3).2) x1 x2 x3) h c := by
  have eL : f_LW_unlock h x1 x2 x3 = (1, nx h) := by simp only [f_LW_unlock, if_pos v0]
  rw [eL]
  exact okV_rf I hc
theorem pr_unlock_1 {h : ev_H} {c t l : Nat} (I : Inv h c t l) (hc : c < 512) {p : Nat} (hp : p < cP h) {x2 x3 : Int32} : okV (f_LW_unlock h (nI p) x2 x3) (f_MO_unlock_1 ((f_LW_unlock h (nI p) x2 x3).2) (nI p) x2 x3) h c := by
  have l48 := Inv_48 I
  have l10 := Inv_10 I
  have tb := Inv_tb I
  have cp : (nI p).toNatClampNeg = p := nI_clamp (by omega)
  have vp : ¬ f_TB_isBelow (nI p) (gI h 0 0 4) = 0 := by rw [Inv_m I, isB_mk (by omega) hp]; decide
  have sp := nI_pos (n := p) (by omega)
  by_cases q1 : (f_TB_isBloodType x2 x3) = 0
  · have eL : f_LW_unlock h (nI p) x2 x3 = ((2 : Int32), nx h) := by simp only [f_LW_unlock, cp, if_neg vp, if_pos q1]
    have e : mE (nx h) h := mE_sm sm_nx
    have eM : f_MO_unlock_1 (nx h) (nI p) x2 x3 = sI (nx h) 0 6 0 2 := by simp [f_MO_unlock_1, m_MO_unlock_1_41, m_MO_unlock_1_61, hp_MO_unlock_1_87, f_MO_unlock_1_61, f_MO_unlock_1_41, cp, rd_p22 I e hp, rd_p23 I e hp, rd_p24 I e hp, rd_p25 I e hp, in_below (x := x2) (m := 3) (n := 4) (by decide), in_below (x := x3) (m := 1) (n := 2) (by decide), bt_1, q1, refused_0, refused_2, refused_3, refused_4, f_MO_refused1]
    rw [eL]
    show okV (2, nx h) (f_MO_unlock_1 (nx h) (nI p) x2 x3) h c
    rw [eM]
    exact okV_rf I hc
  · by_cases q2 : (gI h 2 p 0) = 2
    · have eL : f_LW_unlock h (nI p) x2 x3 = ((0 : Int32), sI (sI (sI h 2 p 0 1) 2 p 1 x2) 2 p 2 x3) := by simp only [f_LW_unlock, cp, if_neg vp, if_neg q1, if_pos q2, f_PA_confirm]
      rw [eL]
      show okV (0, sI (sI (sI h 2 p 0 1) 2 p 1 x2) 2 p 2 x3) (f_MO_unlock_1 (sI (sI (sI h 2 p 0 1) 2 p 1 x2) 2 p 2 x3) (nI p) x2 x3) h c
      obtain ⟨a, b, ha, hb, ea, eb⟩ := bt_ex q1
      have e0 : mE (sI (sI (sI h 2 p 0 1) 2 p 1 x2) 2 p 2 x3) h := fun a b x y z => by simp (disch := omega) only [gI_ne, gI_eq, gI_sL, gI_nx]
      have e : mE (sI (sI (sI (sI h 2 p 0 1) 2 p 1 x2) 2 p 2 x3) 0 6 0 0) h := fun a b x y z => by simp (disch := omega) only [gI_ne, gI_eq, gI_sL, gI_nx]
      have eM : f_MO_unlock_1 (sI (sI (sI h 2 p 0 1) 2 p 1 x2) 2 p 2 x3) (nI p) x2 x3 = sI (sI (sI (sI (sI (sI h 2 p 0 1) 2 p 1 x2) 2 p 2 x3) 0 6 0 0) 0 21 p (2 * x2 + x3)) 0 23 p 1 := by simp [f_MO_unlock_1, m_MO_unlock_1_41, m_MO_unlock_1_61, hp_MO_unlock_1_87, f_MO_unlock_1_61, f_MO_unlock_1_41, cp, rd_p22 I e hp, rd_p23 I e hp, rd_p24 I e hp, rd_p25 I e hp, rd_p22 I e0 hp, rd_p23 I e0 hp, rd_p24 I e0 hp, rd_p25 I e0 hp, rd_p22 I (mE_rf (h := h)) hp, rd_p23 I (mE_rf (h := h)) hp, rd_p24 I (mE_rf (h := h)) hp, rd_p25 I (mE_rf (h := h)) hp, in_below (x := x2) (m := 3) (n := 4) (by decide), in_below (x := x3) (m := 1) (n := 2) (by decide), bt_1, q1, q2, refused_0]
      rw [eM]
      refine ⟨⟨e0, rfs_R (h := h) (fun _ _ _ => rfl) (Inv_R I)⟩, rfl, t, l, Inv_pat I hc hp (fun k i j v a b => by unfold vis at v; simp (disch := omega) only [gI_ne, gI_eq, gI_sL, gI_nx]) (fun _ _ _ => rfl) rfl (by simp only [cZ_sI, cZ_sL]; omega) ?_⟩
      obtain ⟨⟨p1, p2, p3, p4⟩, pg, pk⟩ := Inv_P I hp
      simp only at p1 p2 p3 p4 pg pk
      unfold PJ
      simp (disch := omega) only [gI_ne, gI_eq, gI_sL, gI_nx]
      exact ⟨⟨trivial, p2, p3, p4⟩, Or.inr ⟨a, b, ha, hb, by rw [ea, eb, tw_add], ea, eb⟩, pk⟩
    · have eL : f_LW_unlock h (nI p) x2 x3 = ((3 : Int32), nx h) := by simp only [f_LW_unlock, cp, if_neg vp, if_neg q1, if_neg q2]
      have e : mE (nx h) h := mE_sm sm_nx
      have eM : f_MO_unlock_1 (nx h) (nI p) x2 x3 = sI (nx h) 0 6 0 3 := by simp [f_MO_unlock_1, m_MO_unlock_1_41, m_MO_unlock_1_61, hp_MO_unlock_1_87, f_MO_unlock_1_61, f_MO_unlock_1_41, cp, rd_p22 I e hp, rd_p23 I e hp, rd_p24 I e hp, rd_p25 I e hp, in_below (x := x2) (m := 3) (n := 4) (by decide), in_below (x := x3) (m := 1) (n := 2) (by decide), bt_1, q1, q2, refused_0, refused_2, refused_3, refused_4, f_MO_refused1]
      rw [eL]
      show okV (3, nx h) (f_MO_unlock_1 (nx h) (nI p) x2 x3) h c
      rw [eM]
      exact okV_rf I hc
theorem pr_antibody_0 {h : ev_H} {c t l : Nat} (I : Inv h c t l) (hc : c < 512) {x1 x2 : Int32} (v0 : f_TB_isBelow x1 (gI h 0 0 4) = 0) : okM (f_LW_antibody h x1 x2) (f_MO_antibody_0 ((f_LW_antibody h x1 x2).2) x1 x2) h c := by
  have eL : f_LW_antibody h x1 x2 = (1, nx h) := by simp only [f_LW_antibody, if_pos v0]
  rw [eL]
  exact okM_rf I hc (by decide)
theorem pr_antibody_1 {h : ev_H} {c t l : Nat} (I : Inv h c t l) (hc : c < 512) {p : Nat} (hp : p < cP h) {x2 : Int32} : okM (f_LW_antibody h (nI p) x2) (f_MO_antibody_1 ((f_LW_antibody h (nI p) x2).2) (nI p) x2) h c := by
  have l48 := Inv_48 I
  have l10 := Inv_10 I
  have tb := Inv_tb I
  have cp : (nI p).toNatClampNeg = p := nI_clamp (by omega)
  have vp : ¬ f_TB_isBelow (nI p) (gI h 0 0 4) = 0 := by rw [Inv_m I, isB_mk (by omega) hp]; decide
  have sp := nI_pos (n := p) (by omega)
  by_cases q1 : (f_TB_isBelow x2 8) = 0
  · have eL : f_LW_antibody h (nI p) x2 = ((2 : Int32), nx h) := by simp only [f_LW_antibody, cp, if_neg vp, if_pos q1]
    have e : mE (nx h) h := mE_sm sm_nx
    have eM : f_MO_antibody_1 (nx h) (nI p) x2 = (0, sI (nx h) 0 6 0 2) := by simp [f_MO_antibody_1, m_MO_antibody_1_29, hp_MO_antibody_1_55, f_MO_antibody_1_29, cp, rd_p22 I e hp, rd_p23 I e hp, rd_p24 I e hp, rd_p25 I e hp, in_below (x := x2) (m := 7) (n := 8) (by decide), q1, refused_0, refused_2, refused_3, refused_4, f_MO_refused1]
    rw [eL]
    show okM (2, nx h) (f_MO_antibody_1 (nx h) (nI p) x2) h c
    rw [eM]
    exact okM_rf I hc (by decide)
  · have eL : f_LW_antibody h (nI p) x2 = ((0 : Int32), sL (sI h 2 p 4 (gI h 2 p 4 ||| 1 <<< (x2 &&& 31))) 0 27 0 ((f_JI_bitCount (gI h 2 p 4 ||| 1 <<< (x2 &&& 31))).toInt64)) := by simp only [f_LW_antibody, cp, if_neg vp, if_neg q1, gI_eq (show 2 = 2 ∧ p = p ∧ 4 = 4 by omega)]
    rw [eL]
    show okM (0, sL (sI h 2 p 4 (gI h 2 p 4 ||| 1 <<< (x2 &&& 31))) 0 27 0 ((f_JI_bitCount (gI h 2 p 4 ||| 1 <<< (x2 &&& 31))).toInt64)) (f_MO_antibody_1 (sL (sI h 2 p 4 (gI h 2 p 4 ||| 1 <<< (x2 &&& 31))) 0 27 0 ((f_JI_bitCount (gI h 2 p 4 ||| 1 <<< (x2 &&& 31))).toInt64)) (nI p) x2) h c
    have e0 : mE (sL (sI h 2 p 4 (gI h 2 p 4 ||| 1 <<< (x2 &&& 31))) 0 27 0 ((f_JI_bitCount (gI h 2 p 4 ||| 1 <<< (x2 &&& 31))).toInt64)) h := fun a b x y z => by simp (disch := omega) only [gI_ne, gI_eq, gI_sL, gI_nx]
    have e : mE (sI (sL (sI h 2 p 4 (gI h 2 p 4 ||| 1 <<< (x2 &&& 31))) 0 27 0 ((f_JI_bitCount (gI h 2 p 4 ||| 1 <<< (x2 &&& 31))).toInt64)) 0 6 0 0) h := fun a b x y z => by simp (disch := omega) only [gI_ne, gI_eq, gI_sL, gI_nx]
    obtain ⟨a, ha, ea⟩ := isB_ex (n := 8) (by decide) q1
    obtain ⟨k0, hk0, ek0⟩ := (Inv_P I hp).2.2
    have ek1 : gI h 2 p 4 = nI k0 := ((Inv_P I hp).1.2.2.1).trans ek0
    obtain ⟨j0, hj0, ej0⟩ := bits_a hk0 ha
    have ebc : ∀ hh, f_MO_bitsOf hh (gI h 2 p 4 ||| 1 <<< (x2 &&& 31)) = f_JI_bitCount (gI h 2 p 4 ||| 1 <<< (x2 &&& 31)) := fun hh => by rw [ek1, ea, ej0]; exact bits_c hj0
    have eM : f_MO_antibody_1 (sL (sI h 2 p 4 (gI h 2 p 4 ||| 1 <<< (x2 &&& 31))) 0 27 0 ((f_JI_bitCount (gI h 2 p 4 ||| 1 <<< (x2 &&& 31))).toInt64)) (nI p) x2 = (f_JI_bitCount (gI h 2 p 4 ||| 1 <<< (x2 &&& 31)), sI (sI (sL (sI h 2 p 4 (gI h 2 p 4 ||| 1 <<< (x2 &&& 31))) 0 27 0 ((f_JI_bitCount (gI h 2 p 4 ||| 1 <<< (x2 &&& 31))).toInt64)) 0 6 0 0) 0 24 p (gI h 2 p 4 ||| 1 <<< (x2 &&& 31))) := by simp [f_MO_antibody_1, m_MO_antibody_1_29, hp_MO_antibody_1_55, f_MO_antibody_1_29, cp, rd_p22 I e hp, rd_p23 I e hp, rd_p24 I e hp, rd_p25 I e hp, rd_p22 I e0 hp, rd_p23 I e0 hp, rd_p24 I e0 hp, rd_p25 I e0 hp, rd_p22 I (mE_rf (h := h)) hp, rd_p23 I (mE_rf (h := h)) hp, rd_p24 I (mE_rf (h := h)) hp, rd_p25 I (mE_rf (h := h)) hp, in_below (x := x2) (m := 7) (n := 8) (by decide), q1, refused_0, gI_eq, ebc]
    rw [eM]
    refine ⟨⟨e0, rfs_R (h := h) (fun _ _ _ => rfl) (Inv_R I)⟩, rfl, fun _ => by simp only [gL_sI, gL_sL]; exact lg_self _, t, l, Inv_pat I hc hp (fun k i j v a b => by unfold vis at v; simp (disch := omega) only [gI_ne, gI_eq, gI_sL, gI_nx]) (fun _ _ _ => rfl) rfl (by simp only [cZ_sI, cZ_sL]; omega) ?_⟩
    obtain ⟨⟨p1, p2, p3, p4⟩, pg, pk⟩ := Inv_P I hp
    simp only at p1 p2 p3 p4 pg pk
    unfold PJ
    simp (disch := omega) only [gI_ne, gI_eq, gI_sL, gI_nx]
    exact ⟨⟨p1, p2, trivial, p4⟩, pg, ⟨j0, hj0, by rw [ek1, ea, ej0]⟩⟩
theorem pr_sample_0 {h : ev_H} {c t l : Nat} (I : Inv h c t l) (hc : c < 512) {x1 x2 x3 : Int32} (v0 : f_TB_isBelow x1 (gI h 0 0 4) = 0) : okM (f_LW_sample h x1 x2 x3) (f_MO_sample_0 ((f_LW_sample h x1 x2 x3).2) x1 x2 x3) h c := by
  have eL : f_LW_sample h x1 x2 x3 = (1, nx h) := by simp only [f_LW_sample, if_pos v0]
  rw [eL]
  exact okM_rf I hc (by decide)
theorem pr_sample_1 {h : ev_H} {c t l : Nat} (I : Inv h c t l) (hc : c < 512) {p : Nat} (hp : p < cP h) {x2 x3 : Int32} : okM (f_LW_sample h (nI p) x2 x3) (f_MO_sample_1 ((f_LW_sample h (nI p) x2 x3).2) (nI p) x2 x3) h c := by
  have l48 := Inv_48 I
  have l10 := Inv_10 I
  have tb := Inv_tb I
  have cp : (nI p).toNatClampNeg = p := nI_clamp (by omega)
  have vp : ¬ f_TB_isBelow (nI p) (gI h 0 0 4) = 0 := by rw [Inv_m I, isB_mk (by omega) hp]; decide
  have sp := nI_pos (n := p) (by omega)
  by_cases q1 : (f_TB_isBloodType x2 x3) = 0
  · have eL : f_LW_sample h (nI p) x2 x3 = ((2 : Int32), nx h) := by simp only [f_LW_sample, cp, if_neg vp, if_pos q1]
    have e : mE (nx h) h := mE_sm sm_nx
    have eM : f_MO_sample_1 (nx h) (nI p) x2 x3 = (0, sI (nx h) 0 6 0 2) := by simp [f_MO_sample_1, m_MO_sample_1_41, m_MO_sample_1_61, m_MO_sample_1_111, hp_MO_sample_1_120, f_MO_sample_1_111, f_MO_sample_1_61, f_MO_sample_1_41, cp, rd_p22 I e hp, rd_p23 I e hp, rd_p24 I e hp, rd_p25 I e hp, in_below (x := x2) (m := 3) (n := 4) (by decide), in_below (x := x3) (m := 1) (n := 2) (by decide), bt_1, q1, refused_0, refused_2, refused_3, refused_4, f_MO_refused1]
    rw [eL]
    show okM (2, nx h) (f_MO_sample_1 (nx h) (nI p) x2 x3) h c
    rw [eM]
    exact okM_rf I hc (by decide)
  · by_cases q2 : (gI h 2 p 0) = 2
    · have eL : f_LW_sample h (nI p) x2 x3 = ((3 : Int32), nx h) := by simp only [f_LW_sample, cp, if_neg vp, if_neg q1, if_pos q2]
      have e : mE (nx h) h := mE_sm sm_nx
      have eM : f_MO_sample_1 (nx h) (nI p) x2 x3 = (0, sI (nx h) 0 6 0 3) := by simp [f_MO_sample_1, m_MO_sample_1_41, m_MO_sample_1_61, m_MO_sample_1_111, hp_MO_sample_1_120, f_MO_sample_1_111, f_MO_sample_1_61, f_MO_sample_1_41, cp, rd_p22 I e hp, rd_p23 I e hp, rd_p24 I e hp, rd_p25 I e hp, in_below (x := x2) (m := 3) (n := 4) (by decide), in_below (x := x3) (m := 1) (n := 2) (by decide), bt_1, q1, q2, refused_0, refused_2, refused_3, refused_4, f_MO_refused1]
      rw [eL]
      show okM (3, nx h) (f_MO_sample_1 (nx h) (nI p) x2 x3) h c
      rw [eM]
      exact okM_rf I hc (by decide)
    · have eL : f_LW_sample h (nI p) x2 x3 = ((0 : Int32), sL (sI (sI (sI (sI h 2 p 0 (ns_s h p x2 x3)) 2 p 1 x2) 2 p 2 x3) 2 p 3 (nI t)) 0 27 0 ((ns_s h p x2 x3).toInt64)) := by simp only [f_LW_sample, cp, if_neg vp, if_neg q1, if_neg q2, f_PA_takeSample, f_PA_takeSample_33, ns_h, Inv_t I, gI_ne (show ¬ (2 = 2 ∧ p = p ∧ 0 = 3) by omega), gI_ne (show ¬ (2 = 2 ∧ p = p ∧ 0 = 2) by omega), gI_ne (show ¬ (2 = 2 ∧ p = p ∧ 0 = 1) by omega), gI_eq (show 2 = 2 ∧ p = p ∧ 0 = 0 by omega)]
      rw [eL]
      show okM (0, sL (sI (sI (sI (sI h 2 p 0 (ns_s h p x2 x3)) 2 p 1 x2) 2 p 2 x3) 2 p 3 (nI t)) 0 27 0 ((ns_s h p x2 x3).toInt64)) (f_MO_sample_1 (sL (sI (sI (sI (sI h 2 p 0 (ns_s h p x2 x3)) 2 p 1 x2) 2 p 2 x3) 2 p 3 (nI t)) 0 27 0 ((ns_s h p x2 x3).toInt64)) (nI p) x2 x3) h c
      obtain ⟨a, b, ha, hb, ea, eb⟩ := bt_ex q1
      have e0 : mE (sL (sI (sI (sI (sI h 2 p 0 (ns_s h p x2 x3)) 2 p 1 x2) 2 p 2 x3) 2 p 3 (nI t)) 0 27 0 ((ns_s h p x2 x3).toInt64)) h := fun a b x y z => by simp (disch := omega) only [gI_ne, gI_eq, gI_sL, gI_nx]
      have e : mE (sI (sL (sI (sI (sI (sI h 2 p 0 (ns_s h p x2 x3)) 2 p 1 x2) 2 p 2 x3) 2 p 3 (nI t)) 0 27 0 ((ns_s h p x2 x3).toInt64)) 0 6 0 0) h := fun a b x y z => by simp (disch := omega) only [gI_ne, gI_eq, gI_sL, gI_nx]
      have em : ∀ h1, mE h1 h → (if 0 ≤ gI h1 0 21 p then (if gI h1 0 21 p = 2 * x2 + x3 then (1 : Int32) else 2) else 0) = ns_s h p x2 x3 := fun h1 w => by rw [w 21 p (by decide) (by decide) (fun z => by omega), ea, eb, tw_add]; exact ns_m I hp ha hb
      have en : gI (sI (sI (sI (sL (sI (sI (sI (sI h 2 p 0 (ns_s h p x2 x3)) 2 p 1 x2) 2 p 2 x3) 2 p 3 (nI t)) 0 27 0 ((ns_s h p x2 x3).toInt64)) 0 6 0 0) 0 23 p (ns_s h p x2 x3)) 0 21 p (2 * x2 + x3)) 0 6 1 = nI t := by rw [gI_ne (by omega), gI_ne (by omega), rd_now I e]
      have eM : f_MO_sample_1 (sL (sI (sI (sI (sI h 2 p 0 (ns_s h p x2 x3)) 2 p 1 x2) 2 p 2 x3) 2 p 3 (nI t)) 0 27 0 ((ns_s h p x2 x3).toInt64)) (nI p) x2 x3 = (ns_s h p x2 x3, sI (sI (sI (sI (sL (sI (sI (sI (sI h 2 p 0 (ns_s h p x2 x3)) 2 p 1 x2) 2 p 2 x3) 2 p 3 (nI t)) 0 27 0 ((ns_s h p x2 x3).toInt64)) 0 6 0 0) 0 23 p (ns_s h p x2 x3)) 0 21 p (2 * x2 + x3)) 0 22 p (nI t)) := by simp [f_MO_sample_1, m_MO_sample_1_41, m_MO_sample_1_61, m_MO_sample_1_111, hp_MO_sample_1_120, f_MO_sample_1_111, f_MO_sample_1_61, f_MO_sample_1_41, cp, rd_p22 I e hp, rd_p23 I e hp, rd_p24 I e hp, rd_p25 I e hp, rd_p22 I e0 hp, rd_p23 I e0 hp, rd_p24 I e0 hp, rd_p25 I e0 hp, rd_p22 I (mE_rf (h := h)) hp, rd_p23 I (mE_rf (h := h)) hp, rd_p24 I (mE_rf (h := h)) hp, rd_p25 I (mE_rf (h := h)) hp, in_below (x := x2) (m := 3) (n := 4) (by decide), in_below (x := x3) (m := 1) (n := 2) (by decide), bt_1, q1, q2, refused_0, em _ e, em _ e0, en, rd_now I e0, gI_ne, gI_eq]
      rw [eM]
      refine ⟨⟨e0, rfs_R (h := h) (fun _ _ _ => rfl) (Inv_R I)⟩, rfl, fun _ => by simp only [gL_sI, gL_sL]; exact lg_self _, t, l, Inv_pat I hc hp (fun k i j v a b => by unfold vis at v; simp (disch := omega) only [gI_ne, gI_eq, gI_sL, gI_nx]) (fun _ _ _ => rfl) rfl (by simp only [cZ_sI, cZ_sL]; omega) ?_⟩
      obtain ⟨⟨p1, p2, p3, p4⟩, pg, pk⟩ := Inv_P I hp
      simp only at p1 p2 p3 p4 pg pk
      unfold PJ
      simp (disch := omega) only [gI_ne, gI_eq, gI_sL, gI_nx]
      exact ⟨⟨trivial, trivial, p3, p4⟩, Or.inr ⟨a, b, ha, hb, by rw [ea, eb, tw_add], ea, eb⟩, pk⟩
theorem pr_crossmatch_0 {h : ev_H} {c t l : Nat} (I : Inv h c t l) (hc : c < 512) {x1 x2 x3 : Int32} (v0 : f_TB_isBelow x1 (gI h 0 0 4) = 0) : okV (f_LW_crossmatch h x1 x2 x3) (f_MO_crossmatch_0 ((f_LW_crossmatch h x1 x2 x3).2) x1 x2 x3) h c := by
  have eL : f_LW_crossmatch h x1 x2 x3 = (1, nx h) := by simp only [f_LW_crossmatch, if_pos v0]
  rw [eL]
  exact okV_rf I hc
theorem pr_crossmatch_10 {h : ev_H} {c t l : Nat} (I : Inv h c t l) (hc : c < 512) {x1 x2 x3 : Int32} (v0 : ¬ f_TB_isBelow x1 (gI h 0 0 4) = 0) (v1 : f_TB_isBelow x2 (gI h 0 0 3) = 0) : okV (f_LW_crossmatch h x1 x2 x3) (f_MO_crossmatch_10 ((f_LW_crossmatch h x1 x2 x3).2) x1 x2 x3) h c := by
  have eL : f_LW_crossmatch h x1 x2 x3 = (1, nx h) := by simp only [f_LW_crossmatch, if_neg v0, if_pos v1]
  rw [eL]
  exact okV_rf I hc
theorem pr_crossmatch_11 {h : ev_H} {c t l : Nat} (I : Inv h c t l) (hc : c < 512) {p : Nat} (hp : p < cP h) {u : Nat} (hu : u < cU h) {x3 : Int32} : okV (f_LW_crossmatch h (nI p) (nI u) x3) (f_MO_crossmatch_11 ((f_LW_crossmatch h (nI p) (nI u) x3).2) (nI p) (nI u) x3) h c := by
  have l48 := Inv_48 I
  have l10 := Inv_10 I
  have tb := Inv_tb I
  have cp : (nI p).toNatClampNeg = p := nI_clamp (by omega)
  have vp : ¬ f_TB_isBelow (nI p) (gI h 0 0 4) = 0 := by rw [Inv_m I, isB_mk (by omega) hp]; decide
  have sp := nI_pos (n := p) (by omega)
  have cu : (nI u).toNatClampNeg = u := nI_clamp (by omega)
  have vu : ¬ f_TB_isBelow (nI u) (gI h 0 0 3) = 0 := by rw [Inv_n I, isB_mk (by omega) hu]; decide
  have su := nI_pos (n := u) (by omega)
  by_cases q1 : (f_UN_isInHouse h u) = 0
  · have eH : (if gI h 1 u 8 = 0 then (1 : Int32) else if gI h 1 u 8 = 1 then 1 else 0) = f_UN_isInHouse h u := rfl
    have eL : f_LW_crossmatch h (nI p) (nI u) x3 = ((2 : Int32), nx h) := by simp only [f_LW_crossmatch, cp, cu, if_neg vp, if_neg vu, if_pos q1]
    have e : mE (nx h) h := mE_sm sm_nx
    have eM : f_MO_crossmatch_11 (nx h) (nI p) (nI u) x3 = sI (nx h) 0 6 0 2 := by simp [f_MO_crossmatch_11, m_MO_crossmatch_11_50, m_MO_crossmatch_11_73, m_MO_crossmatch_11_92, m_MO_crossmatch_11_121, hp_MO_crossmatch_11_122, f_MO_crossmatch_11_121, f_MO_crossmatch_11_92, f_MO_crossmatch_11_73, f_MO_crossmatch_11_50, cu, ag_state I e hu, ag_ready I e hu, ag_exp I e hu, ag_bar I e hu, rd_u7 I e hu, rd_u8 I e hu, rd_u9 I e hu, rd_u10 I e hu, rd_u11 I e hu, rd_u12 I e hu, rd_u13 I e hu, rd_u14 I e hu, rd_u19 I e hu, rd_u20 I e hu, cp, rd_p22 I e hp, rd_p23 I e hp, rd_p24 I e hp, rd_p25 I e hp, ag_reason I e hp hu, ag_match I e hp hu, eH, q1, refused_0, refused_2, refused_3, refused_4, f_MO_refused1]
    rw [eL]
    show okV (2, nx h) (f_MO_crossmatch_11 (nx h) (nI p) (nI u) x3) h c
    rw [eM]
    exact okV_rf I hc
  · by_cases q2 : (gI h 1 u 0) = 0
    · have eL : f_LW_crossmatch h (nI p) (nI u) x3 = ((0 : Int32), sI h 3 p u (if x3 = 0 then -1 else nI t)) := by simp only [f_LW_crossmatch, cp, cu, if_neg vp, if_neg vu, if_neg q1, if_pos q2, f_PA_noteCrossmatch, m_TB_crossmatch_65, Inv_t I, cu]
      rw [eL]
      show okV (0, sI h 3 p u (if x3 = 0 then -1 else nI t)) (f_MO_crossmatch_11 (sI h 3 p u (if x3 = 0 then -1 else nI t)) (nI p) (nI u) x3) h c
      have e0 : mE (sI h 3 p u (if x3 = 0 then -1 else nI t)) h := fun a b x y z => by simp (disch := omega) only [gI_ne, gI_eq, gI_sL, gI_nx]
      have e : mE (sI (sI h 3 p u (if x3 = 0 then -1 else nI t)) 0 6 0 0) h := fun a b x y z => by simp (disch := omega) only [gI_ne, gI_eq, gI_sL, gI_nx]
      have cx : ((48 : Int32) * nI p + nI u).toNatClampNeg = 48 * p + u := cx_48 (by omega) (by omega)
      have q1' : ¬ (gI h 1 u 8 = 0) → gI h 1 u 8 = 1 := fun z => by
        rw [f_UN_isInHouse, if_neg z] at q1
        by_cases y : gI h 1 u 8 = 1
        · exact y
        · rw [if_neg y] at q1
          exact absurd rfl q1
      have eH : (if gI h 1 u 8 = 0 then (1 : Int32) else if gI h 1 u 8 = 1 then 1 else 0) = 1 := by
        by_cases y : gI h 1 u 8 = 0
        · rw [if_pos y]
        · rw [if_neg y, if_pos (q1' y)]
      have eM : f_MO_crossmatch_11 (sI h 3 p u (if x3 = 0 then -1 else nI t)) (nI p) (nI u) x3 = sI (sI (sI h 3 p u (if x3 = 0 then -1 else nI t)) 0 6 0 0) 0 26 (48 * p + u) (if x3 = 0 then -1 else nI t) := by simp [f_MO_crossmatch_11, m_MO_crossmatch_11_50, m_MO_crossmatch_11_73, m_MO_crossmatch_11_92, m_MO_crossmatch_11_121, hp_MO_crossmatch_11_122, f_MO_crossmatch_11_121, f_MO_crossmatch_11_92, f_MO_crossmatch_11_73, f_MO_crossmatch_11_50, cu, ag_state I e hu, ag_ready I e hu, ag_exp I e hu, ag_bar I e hu, rd_u7 I e hu, rd_u8 I e hu, rd_u9 I e hu, rd_u10 I e hu, rd_u11 I e hu, rd_u12 I e hu, rd_u13 I e hu, rd_u14 I e hu, rd_u19 I e hu, rd_u20 I e hu, cp, rd_p22 I e hp, rd_p23 I e hp, rd_p24 I e hp, rd_p25 I e hp, ag_reason I e hp hu, ag_match I e hp hu, ag_state I e0 hu, ag_ready I e0 hu, ag_exp I e0 hu, ag_bar I e0 hu, rd_u7 I e0 hu, rd_u8 I e0 hu, rd_u9 I e0 hu, rd_u10 I e0 hu, rd_u11 I e0 hu, rd_u12 I e0 hu, rd_u13 I e0 hu, rd_u14 I e0 hu, rd_u19 I e0 hu, rd_u20 I e0 hu, rd_p22 I e0 hp, rd_p23 I e0 hp, rd_p24 I e0 hp, rd_p25 I e0 hp, ag_reason I e0 hp hu, ag_match I e0 hp hu, ag_state I (mE_rf (h := h)) hu, ag_ready I (mE_rf (h := h)) hu, ag_exp I (mE_rf (h := h)) hu, ag_bar I (mE_rf (h := h)) hu, rd_u7 I (mE_rf (h := h)) hu, rd_u8 I (mE_rf (h := h)) hu, rd_u9 I (mE_rf (h := h)) hu, rd_u10 I (mE_rf (h := h)) hu, rd_u11 I (mE_rf (h := h)) hu, rd_u12 I (mE_rf (h := h)) hu, rd_u13 I (mE_rf (h := h)) hu, rd_u14 I (mE_rf (h := h)) hu, rd_u19 I (mE_rf (h := h)) hu, rd_u20 I (mE_rf (h := h)) hu, rd_p22 I (mE_rf (h := h)) hp, rd_p23 I (mE_rf (h := h)) hp, rd_p24 I (mE_rf (h := h)) hp, rd_p25 I (mE_rf (h := h)) hp, ag_reason I (mE_rf (h := h)) hp hu, ag_match I (mE_rf (h := h)) hp hu, q1, q2, refused_0, cx, eH, rd_now I e]
      rw [eM]
      refine ⟨⟨e0, rfs_R (h := h) (fun _ _ _ => rfl) (Inv_R I)⟩, rfl, t, l, Inv_mx I hc hp (u := u) (by omega) (fun k i j v a b => by unfold vis at v; simp (disch := omega) only [gI_ne, gI_eq, gI_sL, gI_nx]) (fun _ _ _ => rfl) rfl (by simp only [cZ_sI, cZ_sL]; omega) ?_⟩
      simp (disch := omega) only [gI_ne, gI_eq, gI_sL, gI_nx]
      refine ⟨trivial, ?_⟩
      by_cases z : x3 = 0
      · rw [if_pos z]; exact Or.inl rfl
      · rw [if_neg z]; exact Or.inr (nI_pos' (by omega))
    · have eH : (if gI h 1 u 8 = 0 then (1 : Int32) else if gI h 1 u 8 = 1 then 1 else 0) = f_UN_isInHouse h u := rfl
      have eL : f_LW_crossmatch h (nI p) (nI u) x3 = ((3 : Int32), nx h) := by simp only [f_LW_crossmatch, cp, cu, if_neg vp, if_neg vu, if_neg q1, if_neg q2]
      have e : mE (nx h) h := mE_sm sm_nx
      have eM : f_MO_crossmatch_11 (nx h) (nI p) (nI u) x3 = sI (nx h) 0 6 0 3 := by simp [f_MO_crossmatch_11, m_MO_crossmatch_11_50, m_MO_crossmatch_11_73, m_MO_crossmatch_11_92, m_MO_crossmatch_11_121, hp_MO_crossmatch_11_122, f_MO_crossmatch_11_121, f_MO_crossmatch_11_92, f_MO_crossmatch_11_73, f_MO_crossmatch_11_50, cu, ag_state I e hu, ag_ready I e hu, ag_exp I e hu, ag_bar I e hu, rd_u7 I e hu, rd_u8 I e hu, rd_u9 I e hu, rd_u10 I e hu, rd_u11 I e hu, rd_u12 I e hu, rd_u13 I e hu, rd_u14 I e hu, rd_u19 I e hu, rd_u20 I e hu, cp, rd_p22 I e hp, rd_p23 I e hp, rd_p24 I e hp, rd_p25 I e hp, ag_reason I e hp hu, ag_match I e hp hu, eH, q1, q2, refused_0, refused_2, refused_3, refused_4, f_MO_refused1]
      rw [eL]
      show okV (3, nx h) (f_MO_crossmatch_11 (nx h) (nI p) (nI u) x3) h c
      rw [eM]
      exact okV_rf I hc
