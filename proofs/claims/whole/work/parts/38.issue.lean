/-! issues (by program) -/
def hoC (h : ev_H) (u p t l : Nat) (d : Int32) : ev_H := sI (sI (sI (sI (sI (sI h 1 u 8 2) 1 u 9 (nI p)) 1 u 11 (nI t)) 1 u 12 (nI l)) 1 u 13 d) 0 0 7 (nI (l + 1))
def hoN (h : ev_H) (u p t l : Nat) (d : Int32) : Int32 := r_TB_handOver_L30 (hoC h u p t l d) u (nI p) d (cU h)
def hoH (h : ev_H) (u p t l : Nat) (d : Int32) : ev_H := sL (hoC h u p t l d) 0 27 0 (hoN h u p t l d).toInt64
def hoG (h : ev_H) (u p t l : Nat) (d : Int32) : ev_H := sI (sI (sI (sI (sI (sI (sI (hoH h u p t l d) 0 6 0 0) 0 15 u 2) 0 16 u (nI p)) 0 17 u (nI t)) 0 6 17 (nI (l + 1))) 0 18 u (nI (l + 1))) 0 19 u d
section
variable {h h1 : ev_H} {c t l : Nat}
theorem ho_eq (I : Inv h c t l) {u p : Nat} {d : Int32} : f_TB_handOver h u (nI p) d = (hoN h u p t l d, hoC h u p t l d) := by
  have e1 : sI (f_UN_issueTo h u (nI p) (gI h 0 0 5) (gI h 0 0 7) d) 0 0 7 ((gI (f_UN_issueTo h u (nI p) (gI h 0 0 5) (gI h 0 0 7) d) 0 0 7) + 1) = hoC h u p t l d := by
    have e2 : gI (f_UN_issueTo h u (nI p) (gI h 0 0 5) (gI h 0 0 7) d) 0 0 7 = gI h 0 0 7 := by
      unfold f_UN_issueTo
      simp (disch := omega) only [gI_ne, gI_eq, gI_sL, gI_nx]
    rw [e2, Inv_l I, Inv_t I, nI_1]
    rfl
  have e3 : (gI (hoC h u p t l d) 0 0 3).toNatClampNeg = cU h := by
    unfold hoC
    simp (disch := omega) only [gI_ne, gI_eq, gI_sL, gI_nx]
    exact rd_c3 I
  unfold f_TB_handOver
  rw [e1, e3]
  rfl
theorem ho_mE {u p : Nat} {d : Int32} : mE (hoH h u p t l d) h := fun a b x y z => by
  unfold hoH hoC
  simp (disch := omega) only [gI_ne, gI_eq, gI_sL, gI_nx]
theorem ho_Inv (I : Inv h c t l) (hc : c < 512) {u p : Nat} (hu : u < cU h) {d : Int32} : Inv (hoG h u p t l d) (c + 1) t (l + 1) := by
  have lb := Inv_lb I
  have lc : l ≤ c := I.1.2.2.2.2.2.2
  obtain ⟨⟨⟨k1, k2, k3, k4, k5⟩, k6, k7, k8, k9, k10⟩, ⟨s1, s2, s3⟩, ⟨w1, w2⟩, ⟨⟨s0, hs0, es0⟩, ⟨i0, hi0, ei0⟩, ⟨j0, hj0, ej0⟩⟩, z1, z2⟩ := Inv_U I hu
  simp only at k1 k2 k3 k4 k5 k6 k7 k8 k9 k10 s1 s2 s3 w1 w2 es0 ei0 ej0 z1 z2
  have gp : 0 < nI (l + 1) := nI_lt (a := 0) (by omega) (by omega)
  refine Inv_unit I hc (Nat.le_succ l) (by omega) hu (fun k i j v a b c1 d1 => by unfold vis at v; unfold hoG hoH hoC; simp (disch := omega) only [gI_ne, gI_eq, gI_sL, gI_nx]) (by unfold hoG hoH hoC; simp (disch := omega) only [gI_ne, gI_eq, gI_sL, gI_nx]) (by unfold hoG hoH hoC; simp (disch := omega) only [gI_ne, gI_eq, gI_sL, gI_nx]) (fun _ _ _ => rfl) rfl (by unfold hoG hoH hoC; simp only [cZ_sI, cZ_sL]; omega) ?_ ?_
  · unfold UJ stO hoG hoH hoC
    simp (disch := omega) only [gI_ne, gI_eq, gI_sL, gI_nx]
    refine ⟨⟨⟨k1, k2, k3, k4, k5⟩, k6, k7, k8, ?_, k10⟩, ⟨?_, ?_, ?_⟩, ⟨?_, ?_⟩, ⟨⟨t, Nat.le_refl t, rfl⟩, ⟨l + 1, Nat.le_refl _, rfl⟩, ⟨2, by decide, by decide⟩⟩, ?_, ?_⟩
    all_goals simp [gp, nI_pred]
  · intro v hv n q
    obtain ⟨-, -, -, ⟨-, ⟨k, hk, ek⟩, -⟩, -⟩ := Inv_U I hv
    simp only at ek
    have e : gI (hoG h u p t l d) 0 18 u = nI (l + 1) := by
      unfold hoG
      simp (disch := omega) only [gI_ne, gI_eq, gI_sL, gI_nx]
    rw [e, ek, nI_eq (by omega) (by omega)] at q
    omega
theorem lc_go (I : Inv h c t l) {x1 x2 x3 x4 : Int32} {u : Nat} : ∀ n, n ≤ cU h → r_MO_go_L57 h x1 x2 x3 n = r_TB_handOver_L30 h u x1 x4 n
  | 0, _ => rfl
  | n + 1, q => by
    have lb := Inv_lb I
    obtain ⟨-, ⟨s1, s2, s3⟩, -, ⟨-, ⟨k, hk, ek⟩, -⟩, -⟩ := Inv_U I (show n < cU h by omega)
    simp only at s1 s2 s3 ek
    rw [r_MO_go_L57, r_TB_handOver_L30, lc_go (u := u) (x4 := x4) I n (by omega), m_MO_go_L57s_96, m_TB_handOver_L30s_56, f_UN_wentTo, s3, s2, ek]
    by_cases z : k = 0
    · rw [z]
      have a1 : nI 0 ≤ 0 := by decide
      have a2 : nI 0 - 1 = -1 := by decide
      rw [if_pos a1, if_pos a2, if_pos rfl]
    · obtain ⟨k', rfl⟩ : ∃ k', k = k' + 1 := ⟨k - 1, by omega⟩
      have a1 : ¬ nI (k' + 1) ≤ 0 := nI_nle (by omega) (by omega)
      have a2 : ¬ nI (k' + 1) - 1 = -1 := fun w => by
        rw [nI_pred] at w
        have y := nI_pos (n := k') (by omega)
        rw [w] at y
        exact y (by decide)
      have a3 : 0 < nI (k' + 1) := nI_lt (a := 0) (by omega) (by omega)
      rw [if_neg a1, if_neg a2, if_pos a3]
      by_cases y : gI h 0 16 n = x1
      · rw [if_pos y, if_pos y, if_neg (by decide)]
      · rw [if_neg y, if_neg y, if_pos rfl]
theorem ff_go {h h' : ev_H} (g : ∀ a f, gI h' 1 a f = gI h 1 a f) {x1 x4 : Int32} {u : Nat} : ∀ n, r_TB_handOver_L30 h' u x1 x4 n = r_TB_handOver_L30 h u x1 x4 n
  | 0 => rfl
  | n + 1 => by
    rw [r_TB_handOver_L30, r_TB_handOver_L30, ff_go g n]
    unfold m_TB_handOver_L30s_56 f_UN_wentTo
    rw [g, g]
theorem ho_go (I : Inv h c t l) (hc : c < 512) {u p : Nat} (hu : u < cU h) {d : Int32} : f_MO_go (sI (hoH h u p t l d) 0 6 0 0) (nI p) (nI u) d = (hoN h u p t l d, hoG h u p t l d) := by
  have l48 := Inv_48 I
  have cu : (nI u).toNatClampNeg = u := nI_clamp (by omega)
  have e : mE (sI (hoH h u p t l d) 0 6 0 0) h := mE_tr (mE_k (by omega)) ho_mE
  have e24 : hp_MO_go_24 (sI (hoH h u p t l d) 0 6 0 0) (nI p) (nI u) d = sI (sI (sI (sI (hoH h u p t l d) 0 6 0 0) 0 15 u 2) 0 16 u (nI p)) 0 17 u (nI t) := by
    unfold hp_MO_go_24
    rw [cu, gI_ne (by omega), gI_ne (by omega), rd_now I e]
  have e17 : gI (sI (sI (sI (sI (hoH h u p t l d) 0 6 0 0) 0 15 u 2) 0 16 u (nI p)) 0 17 u (nI t)) 0 6 17 = nI l := by
    rw [gI_ne (by omega), gI_ne (by omega), gI_ne (by omega), e 6 17 (by decide) (by decide) (fun _ => by decide), Inv_l2 I]
  have e44 : sI (hp_MO_go_44 (sI (hoH h u p t l d) 0 6 0 0) (nI p) (nI u) d) 0 19 (nI u).toNatClampNeg d = hoG h u p t l d := by
    unfold hp_MO_go_44
    rw [cu, e24, e17, gI_eq ⟨rfl, rfl, rfl⟩, nI_1]
    rfl
  have I' := ho_Inv I hc (p := p) (d := d) hu
  unfold f_MO_go
  rw [e44, rd_c2 I' mE_rf]
  refine Prod.ext ?_ rfl
  show r_MO_go_L57 (hoG h u p t l d) (nI p) (nI u) d (cU h) = hoN h u p t l d
  rw [lc_go I' (u := u) (x4 := d) (cU h) (Nat.le_refl _)]
  exact ff_go (fun a f => by unfold hoG hoH; simp (disch := omega) only [gI_ne, gI_eq, gI_sL, gI_nx]) _
theorem ho_ok (I : Inv h c t l) (hc : c < 512) {u p : Nat} (hu : u < cU h) {d : Int32} : okM (0, hoH h u p t l d) (hoN h u p t l d, hoG h u p t l d) h c :=
  ⟨⟨ho_mE, rfs_R (h := h) (fun _ _ _ => rfl) (Inv_R I)⟩, rfl, fun _ => by show lg_cmp (gL (hoG h u p t l d) 0 27 0) _ = 0; unfold hoG hoH; simp only [gL_sI, gL_sL]; exact lg_self _, t, l + 1, ho_Inv I hc hu⟩
theorem ag_go (I : Inv h c t l) (e : mE h1 h) {p u : Nat} (hp : p < cP h) (hu : u < cU h) : f_MO_mayGo h1 (nI p) (nI u) = if f_TB_mayLeaveFor h (nI p) u = 0 then 0 else (if gI h 2 p 0 = 2 then 0 else 1) := by
  have l48 := Inv_48 I
  have l10 := Inv_10 I
  have cu : (nI u).toNatClampNeg = u := nI_clamp (by omega)
  have cp : (nI p).toNatClampNeg = p := nI_clamp (by omega)
  obtain ⟨-, ⟨s1, s2, -⟩, -⟩ := Inv_U I hu
  simp only at s1 s2
  unfold f_MO_mayGo f_MO_mayGo_30 m_MO_mayGo_30 f_TB_mayLeaveFor f_TB_mayLeaveFor_21 m_TB_mayLeaveFor_21 f_TB_isUsable
  rw [ag_state I e hu, ag_exp I e hu, ag_bar I e hu, cu, cp, rd_p23 I e hp, e 16 u (by decide) (by decide) (fun z => by omega)]
  by_cases a : gI h 1 u 8 = 0
  · simp only [a, if_true]
    by_cases b1 : f_UN_isExpired h u (gI h 0 0 5) = 0 <;> by_cases b2 : f_UN_isBarred h u (gI h 0 0 6) = 0 <;> by_cases b3 : gI h 2 p 0 = 2 <;> simp [b1, b2, b3]
  · by_cases a1 : gI h 1 u 8 = 1
    · have w : gI h 1 u 9 = gI h 0 16 u := by rw [s2, ← s1, if_pos a1, ite_self]
      rw [w]
      simp only [a, if_false, a1, if_true]
      by_cases b0 : gI h 0 16 u = nI p <;> by_cases b1 : f_UN_isExpired h u (gI h 0 0 5) = 0 <;> by_cases b2 : f_UN_isBarred h u (gI h 0 0 6) = 0 <;> by_cases b3 : gI h 2 p 0 = 2 <;> simp [b0, b1, b2, b3]
    · simp [a, a1]
theorem ag_fresh (I : Inv h c t l) (e : mE h1 h) {p : Nat} (hp : p < cP h) : (if gI h1 0 21 p < 0 then (0 : Int32) else (if 4320 ≤ gI h1 0 6 1 - gI h 2 p 3 then 0 else 1)) = f_PA_hasFreshSample h p (gI h 0 0 5) := by
  obtain ⟨-, pg, -⟩ := Inv_P I hp
  simp only at pg
  unfold f_PA_hasFreshSample
  rw [rd_now I e, Inv_t I, rd_p21 e]
  have k : (gI h 0 21 p < 0) = (gI h 2 p 1 = -1) := by
    rcases pg with ⟨g1, g2, -, -⟩ | ⟨a, b, ha, hb, g1, g2, -⟩
    · rw [g1, g2]
      exact propext ⟨fun _ => rfl, fun _ => by decide⟩
    · rw [g1, g2]
      exact propext ⟨fun z => absurd z (nI_pos (by omega)), fun z => by
        have y := nI_pos (n := a) (by omega)
        rw [z] at y
        exact absurd (by decide) y⟩
  simp only [k]
end
theorem pr_issue_0 {h : ev_H} {c t l : Nat} (I : Inv h c t l) (hc : c < 512) {x1 x2 : Int32} (v0 : f_TB_isBelow x1 (gI h 0 0 4) = 0) : okM (f_LW_issue h x1 x2) (f_MO_issue_0 ((f_LW_issue h x1 x2).2) x1 x2) h c := by
  have eL : f_LW_issue h x1 x2 = (1, nx h) := by simp only [f_LW_issue, if_pos v0]
  rw [eL]
  exact okM_rf I hc (by decide)
theorem pr_issue_10 {h : ev_H} {c t l : Nat} (I : Inv h c t l) (hc : c < 512) {x1 x2 : Int32} (v0 : ¬ f_TB_isBelow x1 (gI h 0 0 4) = 0) (v1 : f_TB_isBelow x2 (gI h 0 0 3) = 0) : okM (f_LW_issue h x1 x2) (f_MO_issue_10 ((f_LW_issue h x1 x2).2) x1 x2) h c := by
  have eL : f_LW_issue h x1 x2 = (1, nx h) := by simp only [f_LW_issue, if_neg v0, if_pos v1]
  rw [eL]
  exact okM_rf I hc (by decide)
theorem pr_issue_11 {h : ev_H} {c t l : Nat} (I : Inv h c t l) (hc : c < 512) {p : Nat} (hp : p < cP h) {u : Nat} (hu : u < cU h) : okM (f_LW_issue h (nI p) (nI u)) (f_MO_issue_11 ((f_LW_issue h (nI p) (nI u)).2) (nI p) (nI u)) h c := by
  have l48 := Inv_48 I
  have l10 := Inv_10 I
  have tb := Inv_tb I
  have cp : (nI p).toNatClampNeg = p := nI_clamp (by omega)
  have vp : ¬ f_TB_isBelow (nI p) (gI h 0 0 4) = 0 := by rw [Inv_m I, isB_mk (by omega) hp]; decide
  have sp := nI_pos (n := p) (by omega)
  have cu : (nI u).toNatClampNeg = u := nI_clamp (by omega)
  have vu : ¬ f_TB_isBelow (nI u) (gI h 0 0 3) = 0 := by rw [Inv_n I, isB_mk (by omega) hu]; decide
  have su := nI_pos (n := u) (by omega)
  by_cases q1 : (f_TB_mayLeaveFor h (nI p) u) = 0
  · have eL : f_LW_issue h (nI p) (nI u) = ((2 : Int32), nx h) := by simp only [f_LW_issue, cp, cu, if_neg vp, if_neg vu, if_pos q1]
    have e : mE (nx h) h := mE_sm sm_nx
    have eM : f_MO_issue_11 (nx h) (nI p) (nI u) = (0, sI (nx h) 0 6 0 2) := by simp [f_MO_issue_11, m_MO_issue_11_66, m_MO_issue_11_88, m_MO_issue_11_116, f_MO_issue_11_116, f_MO_issue_11_88, f_MO_issue_11_66, cu, ag_state I e hu, ag_ready I e hu, ag_exp I e hu, ag_bar I e hu, rd_u7 I e hu, rd_u8 I e hu, rd_u9 I e hu, rd_u10 I e hu, rd_u11 I e hu, rd_u12 I e hu, rd_u13 I e hu, rd_u14 I e hu, rd_u19 I e hu, rd_u20 I e hu, cp, rd_p22 I e hp, rd_p23 I e hp, rd_p24 I e hp, rd_p25 I e hp, ag_reason I e hp hu, ag_match I e hp hu, clr_1, ag_go I e hp hu, ag_fresh I e hp, q1, refused_0, refused_2, refused_3, refused_4, f_MO_refused1]
    rw [eL]
    show okM (2, nx h) (f_MO_issue_11 (nx h) (nI p) (nI u)) h c
    rw [eM]
    exact okM_rf I hc (by decide)
  · by_cases q2 : (gI h 2 p 0) = 2
    · have eL : f_LW_issue h (nI p) (nI u) = ((2 : Int32), nx h) := by simp only [f_LW_issue, cp, cu, if_neg vp, if_neg vu, if_neg q1, if_pos q2]
      have e : mE (nx h) h := mE_sm sm_nx
      have eM : f_MO_issue_11 (nx h) (nI p) (nI u) = (0, sI (nx h) 0 6 0 2) := by simp [f_MO_issue_11, m_MO_issue_11_66, m_MO_issue_11_88, m_MO_issue_11_116, f_MO_issue_11_116, f_MO_issue_11_88, f_MO_issue_11_66, cu, ag_state I e hu, ag_ready I e hu, ag_exp I e hu, ag_bar I e hu, rd_u7 I e hu, rd_u8 I e hu, rd_u9 I e hu, rd_u10 I e hu, rd_u11 I e hu, rd_u12 I e hu, rd_u13 I e hu, rd_u14 I e hu, rd_u19 I e hu, rd_u20 I e hu, cp, rd_p22 I e hp, rd_p23 I e hp, rd_p24 I e hp, rd_p25 I e hp, ag_reason I e hp hu, ag_match I e hp hu, clr_1, ag_go I e hp hu, ag_fresh I e hp, q1, q2, refused_0, refused_2, refused_3, refused_4, f_MO_refused1]
      rw [eL]
      show okM (2, nx h) (f_MO_issue_11 (nx h) (nI p) (nI u)) h c
      rw [eM]
      exact okM_rf I hc (by decide)
    · by_cases q3 : (f_PA_hasFreshSample h p (gI h 0 0 5)) = 0
      · have eL : f_LW_issue h (nI p) (nI u) = ((2 : Int32), nx h) := by simp only [f_LW_issue, cp, cu, if_neg vp, if_neg vu, if_neg q1, if_neg q2, if_pos q3]
        have e : mE (nx h) h := mE_sm sm_nx
        have eM : f_MO_issue_11 (nx h) (nI p) (nI u) = (0, sI (nx h) 0 6 0 2) := by simp [f_MO_issue_11, m_MO_issue_11_66, m_MO_issue_11_88, m_MO_issue_11_116, f_MO_issue_11_116, f_MO_issue_11_88, f_MO_issue_11_66, cu, ag_state I e hu, ag_ready I e hu, ag_exp I e hu, ag_bar I e hu, rd_u7 I e hu, rd_u8 I e hu, rd_u9 I e hu, rd_u10 I e hu, rd_u11 I e hu, rd_u12 I e hu, rd_u13 I e hu, rd_u14 I e hu, rd_u19 I e hu, rd_u20 I e hu, cp, rd_p22 I e hp, rd_p23 I e hp, rd_p24 I e hp, rd_p25 I e hp, ag_reason I e hp hu, ag_match I e hp hu, clr_1, ag_go I e hp hu, ag_fresh I e hp, q1, q2, q3, refused_0, refused_2, refused_3, refused_4, f_MO_refused1]
        rw [eL]
        show okM (2, nx h) (f_MO_issue_11 (nx h) (nI p) (nI u)) h c
        rw [eM]
        exact okM_rf I hc (by decide)
      · by_cases q4 : (f_TB_isCleared h p u (nI u)) = 0
        · have eL : f_LW_issue h (nI p) (nI u) = ((3 : Int32), nx h) := by simp only [f_LW_issue, cp, cu, if_neg vp, if_neg vu, if_neg q1, if_neg q2, if_neg q3, if_pos q4]
          have e : mE (nx h) h := mE_sm sm_nx
          have eM : f_MO_issue_11 (nx h) (nI p) (nI u) = (0, sI (nx h) 0 6 0 3) := by simp [f_MO_issue_11, m_MO_issue_11_66, m_MO_issue_11_88, m_MO_issue_11_116, f_MO_issue_11_116, f_MO_issue_11_88, f_MO_issue_11_66, cu, ag_state I e hu, ag_ready I e hu, ag_exp I e hu, ag_bar I e hu, rd_u7 I e hu, rd_u8 I e hu, rd_u9 I e hu, rd_u10 I e hu, rd_u11 I e hu, rd_u12 I e hu, rd_u13 I e hu, rd_u14 I e hu, rd_u19 I e hu, rd_u20 I e hu, cp, rd_p22 I e hp, rd_p23 I e hp, rd_p24 I e hp, rd_p25 I e hp, ag_reason I e hp hu, ag_match I e hp hu, clr_1, ag_go I e hp hu, ag_fresh I e hp, q1, q2, q3, q4, refused_0, refused_2, refused_3, refused_4, f_MO_refused1]
          rw [eL]
          show okM (3, nx h) (f_MO_issue_11 (nx h) (nI p) (nI u)) h c
          rw [eM]
          exact okM_rf I hc (by decide)
        · have eL : f_LW_issue h (nI p) (nI u) = ((0 : Int32), hoH h u p t l 0) := by simp only [f_LW_issue, cp, cu, if_neg vp, if_neg vu, if_neg q1, if_neg q2, if_neg q3, if_neg q4, ho_eq I, hoH]
          rw [eL]
          show okM (0, hoH h u p t l 0) (f_MO_issue_11 (hoH h u p t l 0) (nI p) (nI u)) h c
          have e0 : mE (hoH h u p t l 0) h := ho_mE
          have hr : f_MO_refused (hoH h u p t l 0) 0 (m_MO_issue_11_88 (hoH h u p t l 0) (nI p) (nI u)) (m_MO_issue_11_116 (hoH h u p t l 0) (nI p) (nI u)) 0 = (0, sI (hoH h u p t l 0) 0 6 0 0) := by
            simp [m_MO_issue_11_88, m_MO_issue_11_116, m_MO_issue_11_66, cu, cp, ag_state I e0 hu, ag_ready I e0 hu, ag_exp I e0 hu, ag_bar I e0 hu, rd_u7 I e0 hu, rd_u8 I e0 hu, rd_u9 I e0 hu, rd_u10 I e0 hu, rd_u11 I e0 hu, rd_u12 I e0 hu, rd_u13 I e0 hu, rd_u14 I e0 hu, rd_u19 I e0 hu, rd_u20 I e0 hu, rd_p22 I e0 hp, rd_p23 I e0 hp, rd_p24 I e0 hp, rd_p25 I e0 hp, ag_reason I e0 hp hu, ag_match I e0 hp hu, refused_0, ag_go I e0 hp hu, ag_fresh I e0 hp, clr_1,  q1, q2, q3, q4]
          have eM : f_MO_issue_11 (hoH h u p t l 0) (nI p) (nI u) = (hoN h u p t l 0, hoG h u p t l 0) := by
            simp only [f_MO_issue_11, f_MO_issue_11_66, f_MO_issue_11_88, f_MO_issue_11_116, hr, if_true, ho_go I hc hu]
          rw [eM]
          exact ho_ok I hc hu
theorem pr_emergency_0 {h : ev_H} {c t l : Nat} (I : Inv h c t l) (hc : c < 512) {x1 x2 x3 : Int32} (v0 : f_TB_isBelow x1 (gI h 0 0 4) = 0) : okM (f_LW_emergency h x1 x2 x3) (f_MO_emergency_0 ((f_LW_emergency h x1 x2 x3).2) x1 x2 x3) h c := by
  have eL : f_LW_emergency h x1 x2 x3 = (1, nx h) := by simp only [f_LW_emergency, if_pos v0]
  rw [eL]
  exact okM_rf I hc (by decide)
theorem pr_emergency_10 {h : ev_H} {c t l : Nat} (I : Inv h c t l) (hc : c < 512) {x1 x2 x3 : Int32} (v0 : ¬ f_TB_isBelow x1 (gI h 0 0 4) = 0) (v1 : f_TB_isBelow x2 (gI h 0 0 3) = 0) : okM (f_LW_emergency h x1 x2 x3) (f_MO_emergency_10 ((f_LW_emergency h x1 x2 x3).2) x1 x2 x3) h c := by
  have eL : f_LW_emergency h x1 x2 x3 = (1, nx h) := by simp only [f_LW_emergency, if_neg v0, if_pos v1]
  rw [eL]
  exact okM_rf I hc (by decide)
theorem pr_emergency_11 {h : ev_H} {c t l : Nat} (I : Inv h c t l) (hc : c < 512) {p : Nat} (hp : p < cP h) {u : Nat} (hu : u < cU h) {x3 : Int32} : okM (f_LW_emergency h (nI p) (nI u) x3) (f_MO_emergency_11 ((f_LW_emergency h (nI p) (nI u) x3).2) (nI p) (nI u) x3) h c := by
  have l48 := Inv_48 I
  have l10 := Inv_10 I
  have tb := Inv_tb I
  have cp : (nI p).toNatClampNeg = p := nI_clamp (by omega)
  have vp : ¬ f_TB_isBelow (nI p) (gI h 0 0 4) = 0 := by rw [Inv_m I, isB_mk (by omega) hp]; decide
  have sp := nI_pos (n := p) (by omega)
  have cu : (nI u).toNatClampNeg = u := nI_clamp (by omega)
  have vu : ¬ f_TB_isBelow (nI u) (gI h 0 0 3) = 0 := by rw [Inv_n I, isB_mk (by omega) hu]; decide
  have su := nI_pos (n := u) (by omega)
  by_cases q1 : x3 < 1
  · have hF : m_MO_emergency_11_92 (nx h) (nI p) (nI u) x3 = f_UN_isForEmergencies h u := by
      have e' : mE (nx h) h := mE_sm sm_nx
      unfold m_MO_emergency_11_92 f_UN_isForEmergencies
      rw [cu, rd_u7 I e' hu, rd_u8 I e' hu]
    have eL : f_LW_emergency h (nI p) (nI u) x3 = ((2 : Int32), nx h) := by simp only [f_LW_emergency, cp, cu, if_neg vp, if_neg vu, if_pos q1]
    have e : mE (nx h) h := mE_sm sm_nx
    have eM : f_MO_emergency_11 (nx h) (nI p) (nI u) x3 = (0, sI (nx h) 0 6 0 2) := by simp [f_MO_emergency_11, m_MO_emergency_11_42, m_MO_emergency_11_121, m_MO_emergency_11_131, m_MO_emergency_11_155, f_MO_emergency_11_155, f_MO_emergency_11_131, f_MO_emergency_11_121, f_MO_emergency_11_92, f_MO_emergency_11_42, cu, ag_state I e hu, ag_ready I e hu, ag_exp I e hu, ag_bar I e hu, rd_u7 I e hu, rd_u8 I e hu, rd_u9 I e hu, rd_u10 I e hu, rd_u11 I e hu, rd_u12 I e hu, rd_u13 I e hu, rd_u14 I e hu, rd_u19 I e hu, rd_u20 I e hu, cp, rd_p22 I e hp, rd_p23 I e hp, rd_p24 I e hp, rd_p25 I e hp, ag_reason I e hp hu, ag_match I e hp hu, ag_go I e hp hu, hF, in_lo q1, q1, refused_0, refused_2, refused_3, refused_4, f_MO_refused1]
    rw [eL]
    show okM (2, nx h) (f_MO_emergency_11 (nx h) (nI p) (nI u) x3) h c
    rw [eM]
    exact okM_rf I hc (by decide)
  · by_cases q2 : x3 ≤ 999
    · by_cases q3 : (f_TB_mayLeaveFor h (nI p) u) = 0
      · have hF : m_MO_emergency_11_92 (nx h) (nI p) (nI u) x3 = f_UN_isForEmergencies h u := by
          have e' : mE (nx h) h := mE_sm sm_nx
          unfold m_MO_emergency_11_92 f_UN_isForEmergencies
          rw [cu, rd_u7 I e' hu, rd_u8 I e' hu]
        have eL : f_LW_emergency h (nI p) (nI u) x3 = ((3 : Int32), nx h) := by simp only [f_LW_emergency, cp, cu, if_neg vp, if_neg vu, if_neg q1, if_pos q2, if_pos q3]
        have e : mE (nx h) h := mE_sm sm_nx
        have eM : f_MO_emergency_11 (nx h) (nI p) (nI u) x3 = (0, sI (nx h) 0 6 0 3) := by simp [f_MO_emergency_11, m_MO_emergency_11_42, m_MO_emergency_11_121, m_MO_emergency_11_131, m_MO_emergency_11_155, f_MO_emergency_11_155, f_MO_emergency_11_131, f_MO_emergency_11_121, f_MO_emergency_11_92, f_MO_emergency_11_42, cu, ag_state I e hu, ag_ready I e hu, ag_exp I e hu, ag_bar I e hu, rd_u7 I e hu, rd_u8 I e hu, rd_u9 I e hu, rd_u10 I e hu, rd_u11 I e hu, rd_u12 I e hu, rd_u13 I e hu, rd_u14 I e hu, rd_u19 I e hu, rd_u20 I e hu, cp, rd_p22 I e hp, rd_p23 I e hp, rd_p24 I e hp, rd_p25 I e hp, ag_reason I e hp hu, ag_match I e hp hu, ag_go I e hp hu, hF, in_1 q1 q2, q1, q2, q3, refused_0, refused_2, refused_3, refused_4, f_MO_refused1]
        rw [eL]
        show okM (3, nx h) (f_MO_emergency_11 (nx h) (nI p) (nI u) x3) h c
        rw [eM]
        exact okM_rf I hc (by decide)
      · by_cases q4 : (gI h 2 p 0) = 2
        · have hF : m_MO_emergency_11_92 (nx h) (nI p) (nI u) x3 = f_UN_isForEmergencies h u := by
            have e' : mE (nx h) h := mE_sm sm_nx
            unfold m_MO_emergency_11_92 f_UN_isForEmergencies
            rw [cu, rd_u7 I e' hu, rd_u8 I e' hu]
          have eL : f_LW_emergency h (nI p) (nI u) x3 = ((3 : Int32), nx h) := by simp only [f_LW_emergency, cp, cu, if_neg vp, if_neg vu, if_neg q1, if_pos q2, if_neg q3, if_pos q4]
          have e : mE (nx h) h := mE_sm sm_nx
          have eM : f_MO_emergency_11 (nx h) (nI p) (nI u) x3 = (0, sI (nx h) 0 6 0 3) := by simp [f_MO_emergency_11, m_MO_emergency_11_42, m_MO_emergency_11_121, m_MO_emergency_11_131, m_MO_emergency_11_155, f_MO_emergency_11_155, f_MO_emergency_11_131, f_MO_emergency_11_121, f_MO_emergency_11_92, f_MO_emergency_11_42, cu, ag_state I e hu, ag_ready I e hu, ag_exp I e hu, ag_bar I e hu, rd_u7 I e hu, rd_u8 I e hu, rd_u9 I e hu, rd_u10 I e hu, rd_u11 I e hu, rd_u12 I e hu, rd_u13 I e hu, rd_u14 I e hu, rd_u19 I e hu, rd_u20 I e hu, cp, rd_p22 I e hp, rd_p23 I e hp, rd_p24 I e hp, rd_p25 I e hp, ag_reason I e hp hu, ag_match I e hp hu, ag_go I e hp hu, hF, in_1 q1 q2, q1, q2, q3, q4, refused_0, refused_2, refused_3, refused_4, f_MO_refused1]
          rw [eL]
          show okM (3, nx h) (f_MO_emergency_11 (nx h) (nI p) (nI u) x3) h c
          rw [eM]
          exact okM_rf I hc (by decide)
        · by_cases q5 : (f_UN_isForEmergencies h u) = 0
          · have hF : m_MO_emergency_11_92 (nx h) (nI p) (nI u) x3 = f_UN_isForEmergencies h u := by
              have e' : mE (nx h) h := mE_sm sm_nx
              unfold m_MO_emergency_11_92 f_UN_isForEmergencies
              rw [cu, rd_u7 I e' hu, rd_u8 I e' hu]
            have eL : f_LW_emergency h (nI p) (nI u) x3 = ((4 : Int32), nx h) := by simp only [f_LW_emergency, cp, cu, if_neg vp, if_neg vu, if_neg q1, if_pos q2, if_neg q3, if_neg q4, if_pos q5]
            have e : mE (nx h) h := mE_sm sm_nx
            have eM : f_MO_emergency_11 (nx h) (nI p) (nI u) x3 = (0, sI (nx h) 0 6 0 4) := by simp [f_MO_emergency_11, m_MO_emergency_11_42, m_MO_emergency_11_121, m_MO_emergency_11_131, m_MO_emergency_11_155, f_MO_emergency_11_155, f_MO_emergency_11_131, f_MO_emergency_11_121, f_MO_emergency_11_92, f_MO_emergency_11_42, cu, ag_state I e hu, ag_ready I e hu, ag_exp I e hu, ag_bar I e hu, rd_u7 I e hu, rd_u8 I e hu, rd_u9 I e hu, rd_u10 I e hu, rd_u11 I e hu, rd_u12 I e hu, rd_u13 I e hu, rd_u14 I e hu, rd_u19 I e hu, rd_u20 I e hu, cp, rd_p22 I e hp, rd_p23 I e hp, rd_p24 I e hp, rd_p25 I e hp, ag_reason I e hp hu, ag_match I e hp hu, ag_go I e hp hu, hF, in_1 q1 q2, q1, q2, q3, q4, q5, refused_0, refused_2, refused_3, refused_4, f_MO_refused1]
            rw [eL]
            show okM (4, nx h) (f_MO_emergency_11 (nx h) (nI p) (nI u) x3) h c
            rw [eM]
            exact okM_rf I hc (by decide)
          · by_cases q6 : (f_RU_reason h p u) = 0
            · have eL : f_LW_emergency h (nI p) (nI u) x3 = ((0 : Int32), hoH h u p t l x3) := by simp only [f_LW_emergency, cp, cu, if_neg vp, if_neg vu, if_neg q1, if_pos q2, if_neg q3, if_neg q4, if_neg q5, if_pos q6, ho_eq I, hoH]
              rw [eL]
              show okM (0, hoH h u p t l x3) (f_MO_emergency_11 (hoH h u p t l x3) (nI p) (nI u) x3) h c
              have e0 : mE (hoH h u p t l x3) h := ho_mE
              have hF : m_MO_emergency_11_92 (hoH h u p t l x3) (nI p) (nI u) x3 = f_UN_isForEmergencies h u := by
                unfold m_MO_emergency_11_92 f_UN_isForEmergencies
                rw [cu, rd_u7 I e0 hu, rd_u8 I e0 hu]
              have hr : f_MO_refused (hoH h u p t l x3) 0 (m_MO_emergency_11_121 (nI p) (nI u) x3) (m_MO_emergency_11_131 (hoH h u p t l x3) (nI p) (nI u) x3) (m_MO_emergency_11_155 (hoH h u p t l x3) (nI p) (nI u) x3) = (0, sI (hoH h u p t l x3) 0 6 0 0) := by
                simp [m_MO_emergency_11_121, m_MO_emergency_11_131, m_MO_emergency_11_155, m_MO_emergency_11_42, cu, cp, ag_state I e0 hu, ag_ready I e0 hu, ag_exp I e0 hu, ag_bar I e0 hu, rd_u7 I e0 hu, rd_u8 I e0 hu, rd_u9 I e0 hu, rd_u10 I e0 hu, rd_u11 I e0 hu, rd_u12 I e0 hu, rd_u13 I e0 hu, rd_u14 I e0 hu, rd_u19 I e0 hu, rd_u20 I e0 hu, rd_p22 I e0 hp, rd_p23 I e0 hp, rd_p24 I e0 hp, rd_p25 I e0 hp, ag_reason I e0 hp hu, ag_match I e0 hp hu, refused_0, ag_go I e0 hp hu, ag_fresh I e0 hp, clr_1, in_1 q1 q2, hF, q1, q2, q3, q4, q5, q6]
              have eM : f_MO_emergency_11 (hoH h u p t l x3) (nI p) (nI u) x3 = (hoN h u p t l x3, hoG h u p t l x3) := by
                simp only [f_MO_emergency_11, f_MO_emergency_11_42, f_MO_emergency_11_92, f_MO_emergency_11_121, f_MO_emergency_11_131, f_MO_emergency_11_155, hr, if_true, ho_go I hc hu]
              rw [eM]
              exact ho_ok I hc hu
            · have hF : m_MO_emergency_11_92 (nx h) (nI p) (nI u) x3 = f_UN_isForEmergencies h u := by
                have e' : mE (nx h) h := mE_sm sm_nx
                unfold m_MO_emergency_11_92 f_UN_isForEmergencies
                rw [cu, rd_u7 I e' hu, rd_u8 I e' hu]
              have eL : f_LW_emergency h (nI p) (nI u) x3 = ((4 : Int32), nx h) := by simp only [f_LW_emergency, cp, cu, if_neg vp, if_neg vu, if_neg q1, if_pos q2, if_neg q3, if_neg q4, if_neg q5, if_neg q6]
              have e : mE (nx h) h := mE_sm sm_nx
              have eM : f_MO_emergency_11 (nx h) (nI p) (nI u) x3 = (0, sI (nx h) 0 6 0 4) := by simp [f_MO_emergency_11, m_MO_emergency_11_42, m_MO_emergency_11_121, m_MO_emergency_11_131, m_MO_emergency_11_155, f_MO_emergency_11_155, f_MO_emergency_11_131, f_MO_emergency_11_121, f_MO_emergency_11_92, f_MO_emergency_11_42, cu, ag_state I e hu, ag_ready I e hu, ag_exp I e hu, ag_bar I e hu, rd_u7 I e hu, rd_u8 I e hu, rd_u9 I e hu, rd_u10 I e hu, rd_u11 I e hu, rd_u12 I e hu, rd_u13 I e hu, rd_u14 I e hu, rd_u19 I e hu, rd_u20 I e hu, cp, rd_p22 I e hp, rd_p23 I e hp, rd_p24 I e hp, rd_p25 I e hp, ag_reason I e hp hu, ag_match I e hp hu, ag_go I e hp hu, hF, in_1 q1 q2, q1, q2, q3, q4, q5, q6, refused_0, refused_2, refused_3, refused_4, f_MO_refused1]
              rw [eL]
              show okM (4, nx h) (f_MO_emergency_11 (nx h) (nI p) (nI u) x3) h c
              rw [eM]
              exact okM_rf I hc (by decide)
    · have hF : m_MO_emergency_11_92 (nx h) (nI p) (nI u) x3 = f_UN_isForEmergencies h u := by
        have e' : mE (nx h) h := mE_sm sm_nx
        unfold m_MO_emergency_11_92 f_UN_isForEmergencies
        rw [cu, rd_u7 I e' hu, rd_u8 I e' hu]
      have eL : f_LW_emergency h (nI p) (nI u) x3 = ((2 : Int32), nx h) := by simp only [f_LW_emergency, cp, cu, if_neg vp, if_neg vu, if_neg q1, if_neg q2]
      have e : mE (nx h) h := mE_sm sm_nx
      have eM : f_MO_emergency_11 (nx h) (nI p) (nI u) x3 = (0, sI (nx h) 0 6 0 2) := by simp [f_MO_emergency_11, m_MO_emergency_11_42, m_MO_emergency_11_121, m_MO_emergency_11_131, m_MO_emergency_11_155, f_MO_emergency_11_155, f_MO_emergency_11_131, f_MO_emergency_11_121, f_MO_emergency_11_92, f_MO_emergency_11_42, cu, ag_state I e hu, ag_ready I e hu, ag_exp I e hu, ag_bar I e hu, rd_u7 I e hu, rd_u8 I e hu, rd_u9 I e hu, rd_u10 I e hu, rd_u11 I e hu, rd_u12 I e hu, rd_u13 I e hu, rd_u14 I e hu, rd_u19 I e hu, rd_u20 I e hu, cp, rd_p22 I e hp, rd_p23 I e hp, rd_p24 I e hp, rd_p25 I e hp, ag_reason I e hp hu, ag_match I e hp hu, ag_go I e hp hu, hF, in_hi q2, q1, q2, refused_0, refused_2, refused_3, refused_4, f_MO_refused1]
      rw [eL]
      show okM (2, nx h) (f_MO_emergency_11 (nx h) (nI p) (nI u) x3) h c
      rw [eM]
      exact okM_rf I hc (by decide)
