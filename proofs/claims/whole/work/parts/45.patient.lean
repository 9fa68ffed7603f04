/-! a new patient (by program) -/
theorem pi_2 (h : ev_H) (p : Nat) : ∀ a, (r_PA_init_L29 h p a).2 = h.2
  | 0 => rfl
  | a + 1 => pi_2 h p a
theorem pi_n (h : ev_H) (p : Nat) : ∀ a k i j, ¬ (k = 3 ∧ i = p) → gI (r_PA_init_L29 h p a) k i j = gI h k i j
  | 0, _, _, _, _ => rfl
  | a + 1, k, i, j, q => by
    show gI (sI (r_PA_init_L29 h p a) 3 p a (-1)) k i j = _
    rw [gI_ne (by omega)]
    exact pi_n h p a k i j q
theorem pi_y (h : ev_H) (p : Nat) : ∀ a j, j < a → gI (r_PA_init_L29 h p a) 3 p j = -1
  | a + 1, j, q => by
    show gI (sI (r_PA_init_L29 h p a) 3 p a (-1)) 3 p j = _
    by_cases z : j = a
    · rw [gI_eq (by omega)]
    · rw [gI_ne (by omega)]
      exact pi_y h p a j (by omega)
/-- one more patient -/
theorem Inv_newp {h h' : ev_H} {c t l : Nat} (I : Inv h c t l) (hc : c < 512) (hn : cP h < 10) (s1 : ∀ k i j, vis k i j → ¬ (k = 2 ∧ i = cP h) → ¬ (k = 3 ∧ i = cP h) → ¬ (k = 0 ∧ i = 0 ∧ j = 4) → ¬ (k = 0 ∧ i = 6 ∧ j = 19) → ¬ (k = 0 ∧ i = 21 ∧ j = cP h) → gI h' k i j = gI h k i j) (s2 : ∀ k i j, ¬ (k = 0 ∧ i = 2 ∧ j = cP h) → ¬ (k = 2 ∧ i = cP h) → ¬ k = 3 → gR h' k i j = gR h k i j) (r1 : gR h' 0 2 (cP h) = vR 2 (cP h)) (r2 : gR h' 2 (cP h) 6 = vR 3 (cP h)) (s3 : cs h' = (cF h, cU h, cP h + 1, cN h + 1)) (hZ : cZ h' ≤ cZ h + 4)
    (n4 : gI h' 0 0 4 = nI (cP h + 1)) (n19 : gI h' 0 6 19 = nI (cP h + 1)) (f0 : gI h' 2 (cP h) 0 = 0) (f1 : gI h' 2 (cP h) 1 = -1) (f2 : gI h' 2 (cP h) 2 = -1) (f3 : gI h' 2 (cP h) 3 = 0) (f4 : gI h' 2 (cP h) 4 = 0) (f5 : gI h' 2 (cP h) 5 = 0) (g21 : gI h' 0 21 (cP h) = -1) (fx : ∀ u, u < 48 → gI h' 3 (cP h) u = -1) : Inv h' (c + 1) t l := by
  obtain ⟨⟨⟨a1, a2, a3, a4, a5, a6⟩, ⟨b1, b2, b3, b4⟩, ⟨d1, d2, d3, d4, d5⟩, ⟨q1, q2⟩, t1, t2, t3⟩, iU, iP, iB, iX, iQ⟩ := I
  have eU : cU h' = cU h := congrArg (fun z => z.2.1) s3
  have eP : cP h' = cP h + 1 := congrArg (fun z => z.2.2.1) s3
  have eF : cF h' = cF h := congrArg (fun z => z.1) s3
  have eN' : cN h' = cN h + 1 := congrArg (fun z => z.2.2.2) s3
  have g0 : ∀ j, j ≠ 4 → gI h' 0 0 j = gI h 0 0 j := fun j hj => s1 0 0 j (by unfold vis; omega) (by omega) (by omega) (by omega) (by omega) (by omega)
  have g6 : ∀ j, 1 ≤ j → j ≠ 19 → gI h' 0 6 j = gI h 0 6 j := fun j hj z => s1 0 6 j (by unfold vis; omega) (by omega) (by omega) (by omega) (by omega) (by omega)
  have ga : ∀ a j, 7 ≤ a → a ≤ 26 → ¬ (a = 21 ∧ j = cP h) → gI h' 0 a j = gI h 0 a j := fun a j x y z => s1 0 a j (by unfold vis; omega) (by omega) (by omega) (by omega) (by omega) (by omega)
  have rr : ∀ i j, i ≠ 2 → gR h' 0 i j = gR h 0 i j := fun i j z => s2 0 i j (by omega) (by omega) (by omega)
  obtain ⟨z1, z2, z3, z4, z5⟩ := iB.2 (cP h) (Nat.le_refl _) hn
  refine ⟨⟨⟨?_, by rw [eF]; exact a2, by omega, by omega, by omega, by omega⟩, ?_, ?_, ?_, by omega⟩, fun u hu => ?_, fun p hp => ?_, ?_, fun p hp u hu => ?_, fun u v hu hv n => ?_⟩
  · unfold rfs at a1 ⊢
    simp only [rr 0 _ (by decide), rr 3 _ (by decide), rr 6 _ (by decide)]
    exact a1
  · rw [g0 3 (by decide), g6 2 (by decide) (by decide), eU, eP]
    exact ⟨b1, b2, n4, n19⟩
  · rw [g0 _ (by decide), g0 _ (by decide), g0 _ (by decide), g6 _ (by decide) (by decide), g6 _ (by decide) (by decide), g6 _ (by decide) (by decide)]
    exact ⟨d1, d2, d3, d4, d5⟩
  · rw [eU, eP]
    refine ⟨fun u hu => ?_, fun p hp => ?_⟩
    · rw [rr 1 u (by decide)]
      exact q1 u hu
    · by_cases z : p = cP h
      · rw [z]; exact ⟨r1, r2⟩
      · rw [s2 0 2 p (by omega) (by omega) (by omega), s2 2 p 6 (by omega) (by omega) (by omega)]
        exact q2 p (by omega)
  · rw [eU] at hu
    exact UJ_congr (Nat.le_refl l) (iU u hu) (fun f => s1 1 u f (by unfold vis; omega) (by omega) (by omega) (by omega) (by omega) (by omega)) (fun a x y => ga a u x (by omega) (by omega))
  · rw [eP] at hp
    by_cases z : p = cP h
    · rw [z]
      unfold PJ
      simp only [f0, f1, f2, f3, f4, f5, g21, ga 22 (cP h) (by decide) (by decide) (by omega), ga 23 (cP h) (by decide) (by decide) (by omega), ga 24 (cP h) (by decide) (by decide) (by omega), ga 25 (cP h) (by decide) (by decide) (by omega), z1, z2, z3, z4]
      exact ⟨⟨trivial, trivial, trivial, trivial⟩, Or.inl ⟨trivial, trivial, trivial, trivial⟩, ⟨0, by decide, by decide⟩⟩
    · exact PJ_congr (iP p (by omega)) (fun f => s1 2 p f (by unfold vis; omega) (by omega) (by omega) (by omega) (by omega) (by omega)) (fun a x y => ga a p (by omega) (by omega) (by omega))
  · refine ⟨fun u x y => ?_, fun p x y => ?_⟩
    · rw [eU] at x
      rw [ga 17 _ (by decide) (by decide) (by omega)]
      exact iB.1 u x y
    · rw [eP] at x
      rw [ga 22 _ (by decide) (by decide) (by omega), ga 23 _ (by decide) (by decide) (by omega), ga 24 _ (by decide) (by decide) (by omega), ga 25 _ (by decide) (by decide) (by omega)]
      obtain ⟨w1, w2, w3, w4, w5⟩ := iB.2 p (by omega) y
      exact ⟨w1, w2, w3, w4, fun u hu => by rw [ga 26 _ (by decide) (by decide) (by omega)]; exact w5 u hu⟩
  · rw [eP] at hp
    rw [ga 26 _ (by decide) (by decide) (by omega)]
    by_cases z : p = cP h
    · rw [z, fx u hu, z5 u hu]
      exact ⟨rfl, Or.inl rfl⟩
    · rw [s1 3 p u (by unfold vis; omega) (by omega) (by omega) (by omega) (by omega) (by omega)]
      exact iX p (by omega) u hu
  · rw [eU] at hu hv
    rw [ga 18 _ (by decide) (by decide) (by omega), ga 18 _ (by decide) (by decide) (by omega)]
    exact iQ u v hu hv n
theorem gI_w2n {h : ev_H} {a b c : Nat} (q : ¬ (a = 2 ∧ b = cP h)) : gI (nw h 2) a b c = gI h a b c := if_neg q
theorem gI_w2e {h : ev_H} {a b c : Nat} (q : a = 2 ∧ b = cP h) : gI (nw h 2) a b c = 0 := if_pos q
theorem gI_w3n {h : ev_H} {a b c : Nat} (q : ¬ (a = 3 ∧ b = cN h)) : gI (nw h 3) a b c = gI h a b c := if_neg q
/-- the cells of a new patient before their loop -/
def ptB (h : ev_H) : ev_H := sR (nw (sI (sI (sI (nw h 2) 2 (cP h) 0 0) 2 (cP h) 1 (-1)) 2 (cP h) 2 (-1)) 3) 2 (cP h) 6 (vR 3 (cP h))
def ptC (h : ev_H) : ev_H := sI (sR (r_PA_init_L29 (ptB h) (cP h) 48) 0 2 (cP h) (vR 2 (cP h))) 0 0 4 (nI (cP h + 1))
theorem ptB_n {h : ev_H} (e : cN h = cP h) {k i j : Nat} (q : ¬ (k = 2 ∧ i = cP h)) (q2 : ¬ (k = 3 ∧ i = cP h)) : gI (ptB h) k i j = gI h k i j := by
  unfold ptB
  have z : ¬ (k = 3 ∧ i = cN (sI (sI (sI (nw h 2) 2 (cP h) 0 0) 2 (cP h) 1 (-1)) 2 (cP h) 2 (-1))) := by
    show ¬ (k = 3 ∧ i = cN h)
    rw [e]
    exact q2
  rw [gI_sR, gI_w3n z, gI_ne (by omega), gI_ne (by omega), gI_ne (by omega), gI_w2n q]
theorem ptB_y {h : ev_H} {j : Nat} : gI (ptB h) 2 (cP h) j = if j = 2 then -1 else (if j = 1 then -1 else 0) := by
  unfold ptB
  rw [gI_sR, gI_w3n (by omega)]
  by_cases a : j = 2
  · rw [if_pos a, gI_eq (by omega)]
  · rw [if_neg a, gI_ne (by omega)]
    by_cases b : j = 1
    · rw [if_pos b, gI_eq (by omega)]
    · rw [if_neg b, gI_ne (by omega)]
      by_cases d : j = 0
      · rw [gI_eq (by omega)]
      · rw [gI_ne (by omega), gI_w2e (by omega)]
theorem pt_eq {h : ev_H} {c t l : Nat} (I : Inv h c t l) : hp_TB_patient_45 h = ptC h := by
  have l10 := Inv_10 I
  have e : cN h = cP h := I.1.1.2.2.1
  have cn : (nI (cP h)).toNatClampNeg = cP h := nI_clamp (by omega)
  have w : gI (f_PA_init (nw h 2) (cP h)) 0 0 4 = nI (cP h) := by
    show gI (r_PA_init_L29 (ptB h) (cP h) 48) 0 0 4 = _
    rw [pi_n _ _ _ _ _ _ (by omega), ptB_n e (by omega) (by omega)]
    exact Inv_m I
  unfold hp_TB_patient_45
  rw [gI_sR, w, Inv_m I, cn, nI_1]
  rfl
theorem ptC_n {h : ev_H} (e : cN h = cP h) {k i j : Nat} (q : ¬ (k = 2 ∧ i = cP h)) (q2 : ¬ (k = 3 ∧ i = cP h)) (q3 : ¬ (k = 0 ∧ i = 0 ∧ j = 4)) : gI (ptC h) k i j = gI h k i j := by
  unfold ptC
  rw [gI_ne q3, gI_sR, pi_n _ _ _ _ _ _ q2, ptB_n e q q2]
theorem ptC_y {h : ev_H} {j : Nat} : gI (ptC h) 2 (cP h) j = if j = 2 then -1 else (if j = 1 then -1 else 0) := by
  unfold ptC
  rw [gI_ne (by omega), gI_sR, pi_n _ _ _ _ _ _ (by omega), ptB_y]
theorem ptC_x {h : ev_H} {j : Nat} (q : j < 48) : gI (ptC h) 3 (cP h) j = -1 := by
  unfold ptC
  rw [gI_ne (by omega), gI_sR, pi_y _ _ _ _ q]
theorem ptR {h : ev_H} {a k i j : Nat} : gR (r_PA_init_L29 (ptB h) (cP h) a) k i j = gR (ptB h) k i j := by unfold gR; rw [pi_2]
theorem pr_patient {h : ev_H} {c t l : Nat} (I : Inv h c t l) (hc : c < 512) : okM (f_LW_patient h) (f_MO_patient ((f_LW_patient h).2) ) h c := by
  have l48 := Inv_48 I
  have l10 := Inv_10 I
  have tb := Inv_tb I
  by_cases q1 : (gI h 0 0 4) < 10
  · have eN' : cN h = cP h := I.1.1.2.2.1
    have hn : cP h < 10 := by
      have z := q1
      have e10 : (10 : Int32) = nI 10 := by decide
      rw [Inv_m I, e10, nI_ltI (by omega) (by omega)] at z
      exact z
    have p4' : (sL (hp_TB_patient_45 h) 0 27 0 ((gI (hp_TB_patient_45 h) 0 0 4) - 1).toInt64) = (sL (ptC h) 0 27 0 ((nI (cP h)).toInt64)) := by
      have w : gI (ptC h) 0 0 4 = nI (cP h + 1) := gI_eq ⟨rfl, rfl, rfl⟩
      rw [pt_eq I, w, nI_pred]
    have eL : f_LW_patient h = ((0 : Int32), sL (ptC h) 0 27 0 ((nI (cP h)).toInt64)) := by simp only [f_LW_patient, if_pos q1, p4']
    rw [eL]
    show okM (0, sL (ptC h) 0 27 0 ((nI (cP h)).toInt64)) (f_MO_patient (sL (ptC h) 0 27 0 ((nI (cP h)).toInt64)) ) h c
    have e0 : mE (sL (ptC h) 0 27 0 ((nI (cP h)).toInt64)) h := fun a b x y z => by rw [gI_sL, ptC_n eN' (by omega) (by omega) (by omega)]
    have e : mE (sI (sL (ptC h) 0 27 0 ((nI (cP h)).toInt64)) 0 6 0 0) h := mE_tr (mE_k (by omega)) e0
    have cn : (nI (cP h)).toNatClampNeg = cP h := nI_clamp (by omega)
    have e19 : gI (sL (ptC h) 0 27 0 ((nI (cP h)).toInt64)) 0 6 19 = nI (cP h) := by rw [e0 6 19 (by decide) (by decide) (fun _ => by decide), Inv_m2 I]
    have hr : f_MO_refused (sL (ptC h) 0 27 0 ((nI (cP h)).toInt64)) (m_MO_patient_15 (sL (ptC h) 0 27 0 ((nI (cP h)).toInt64))) 0 0 0 = ((0 : Int32), sI (sL (ptC h) 0 27 0 ((nI (cP h)).toInt64)) 0 6 0 0) := by
      have w : m_MO_patient_15 (sL (ptC h) 0 27 0 ((nI (cP h)).toInt64)) = 0 := by
        unfold m_MO_patient_15
        rw [e19, if_neg]
        intro z
        have e10 : (10 : Int32) = nI 10 := by decide
        rw [e10, nI_eq (by omega) (by omega)] at z
        omega
      rw [w]
      exact refused_0
    have e46 : hp_MO_patient_46 (sL (ptC h) 0 27 0 ((nI (cP h)).toInt64)) = sI (sI (sI (sL (ptC h) 0 27 0 ((nI (cP h)).toInt64)) 0 6 0 0) 0 21 (cP h) (-1)) 0 6 19 (nI (cP h + 1)) := by
      unfold hp_MO_patient_46
      rw [hr]
      simp only
      rw [gI_ne (show ¬ (0 = 0 ∧ 6 = 6 ∧ 19 = 0) by omega), e19, cn, gI_ne (by omega), gI_ne (by omega), e19, nI_1]
    have eM : f_MO_patient (sL (ptC h) 0 27 0 ((nI (cP h)).toInt64)) = (nI (cP h), sI (sI (sI (sL (ptC h) 0 27 0 ((nI (cP h)).toInt64)) 0 6 0 0) 0 21 (cP h) (-1)) 0 6 19 (nI (cP h + 1))) := by
      unfold f_MO_patient f_MO_patient_15
      rw [hr]
      simp only [if_true]
      rw [e46, gI_eq ⟨rfl, rfl, rfl⟩, nI_pred]
    rw [eM]
    have I2 : Inv (sI (sI (sI (sL (ptC h) 0 27 0 ((nI (cP h)).toInt64)) 0 6 0 0) 0 21 (cP h) (-1)) 0 6 19 (nI (cP h + 1))) (c + 1) t l := by
      have R : ∀ k i j, gR (sI (sI (sI (sL (ptC h) 0 27 0 ((nI (cP h)).toInt64)) 0 6 0 0) 0 21 (cP h) (-1)) 0 6 19 (nI (cP h + 1))) k i j = gR (sR (r_PA_init_L29 (ptB h) (cP h) 48) 0 2 (cP h) (vR 2 (cP h))) k i j := fun _ _ _ => rfl
      have C2 : (r_PA_init_L29 (ptB h) (cP h) 48).2 = (ptB h).2 := pi_2 _ _ _
      have rd : ∀ k i j, ¬ (k = 0 ∧ i = 6 ∧ j = 0) → ¬ (k = 0 ∧ i = 21 ∧ j = cP h) → ¬ (k = 0 ∧ i = 6 ∧ j = 19) → gI (sI (sI (sI (sL (ptC h) 0 27 0 ((nI (cP h)).toInt64)) 0 6 0 0) 0 21 (cP h) (-1)) 0 6 19 (nI (cP h + 1))) k i j = gI (ptC h) k i j := fun k i j x y z => by rw [gI_ne z, gI_ne y, gI_ne x, gI_sL]
      refine Inv_newp I hc hn (fun k i j v x1 x2 x3 x4 x5 => ?_) (fun k i j x1 x2 x3 => ?_) ?_ ?_ ?_ ?_ ?_ ?_ ?_ ?_ ?_ ?_ ?_ ?_ ?_ (fun u hu => ?_)
      · unfold vis at v
        rw [rd k i j (by omega) x5 x4, ptC_n eN' x1 x2 x3]
      · rw [R, gR_ne x1, ptR]
        unfold ptB
        rw [gR_ne (by omega), gR_nwn (fun z => x3 z.1)]
        show gR (nw h 2) k i j = _
        exact gR_nwn x2
      · rw [R, gR_eq ⟨rfl, rfl, rfl⟩]
      · rw [R, gR_ne (by omega), ptR]
        unfold ptB
        rw [gR_eq ⟨rfl, rfl, rfl⟩]
      · show cs (r_PA_init_L29 (ptB h) (cP h) 48) = _
        unfold cs cF cU cP cN
        rw [pi_2]
        rfl
      · show cZ (r_PA_init_L29 (ptB h) (cP h) 48) ≤ _
        have z : cZ (r_PA_init_L29 (ptB h) (cP h) 48) = cZ h + 2 := by
          unfold cZ
          rw [pi_2]
          rfl
        omega
      · rw [rd _ _ _ (by omega) (by omega) (by omega)]
        exact gI_eq ⟨rfl, rfl, rfl⟩
      · exact gI_eq ⟨rfl, rfl, rfl⟩
      · rw [rd _ _ _ (by omega) (by omega) (by omega), ptC_y]
        rfl
      · rw [rd _ _ _ (by omega) (by omega) (by omega), ptC_y]
        rfl
      · rw [rd _ _ _ (by omega) (by omega) (by omega), ptC_y]
        rfl
      · rw [rd _ _ _ (by omega) (by omega) (by omega), ptC_y]
        rfl
      · rw [rd _ _ _ (by omega) (by omega) (by omega), ptC_y]
        rfl
      · rw [rd _ _ _ (by omega) (by omega) (by omega), ptC_y]
        rfl
      · rw [gI_ne (by omega)]
        exact gI_eq ⟨rfl, rfl, rfl⟩
      · rw [rd _ _ _ (by omega) (by omega) (by omega), ptC_x hu]
    exact ⟨⟨e0, rfs_R (h := sI (sI (sI (sL (ptC h) 0 27 0 ((nI (cP h)).toInt64)) 0 6 0 0) 0 21 (cP h) (-1)) 0 6 19 (nI (cP h + 1))) (fun _ _ _ => rfl) (Inv_R I2)⟩, by show gI _ 0 6 0 = 0; rw [gI_ne (by omega), gI_ne (by omega)]; exact gI_eq ⟨rfl, rfl, rfl⟩, fun _ => by simp only [gL_sI, gL_sL]; exact lg_self _, t, l, I2⟩
  · have w15 : m_MO_patient_15 (nx h) = 1 := by
      unfold m_MO_patient_15
      have z := q1
      have e10 : (10 : Int32) = nI 10 := by decide
      rw [Inv_m I, e10, nI_ltI (by omega) (by omega)] at z
      have e19 : gI (nx h) 0 6 19 = 10 := by
        rw [gI_nx, Inv_m2 I]
        have : cP h = 10 := by omega
        rw [this]
        decide
      rw [if_pos e19]
    have eL : f_LW_patient h = ((1 : Int32), nx h) := by simp only [f_LW_patient, if_neg q1]
    have e : mE (nx h) h := mE_sm sm_nx
    have eM : f_MO_patient (nx h)  = (0, sI (nx h) 0 6 0 1) := by simp [f_MO_patient, f_MO_patient_15, w15, q1, refused_0, refused_2, refused_3, refused_4, f_MO_refused1]
    rw [eL]
    show okM (1, nx h) (f_MO_patient (nx h) ) h c
    rw [eM]
    exact okM_rf I hc (by decide)
