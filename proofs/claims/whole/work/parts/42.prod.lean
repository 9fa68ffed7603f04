/-! products -/
theorem Inv_unit0 {h h' : ev_H} {c t l l' : Nat} (I : Inv h c t l) (hl : l ≤ l') (hl' : l' ≤ c) {u : Nat} (hu0 : u < cU h) (s1 : ∀ k i j, vis k i j → ¬ (k = 1 ∧ i = u) → ¬ (k = 0 ∧ 7 ≤ i ∧ i ≤ 20 ∧ j = u) → ¬ (k = 0 ∧ i = 0 ∧ j = 7) → ¬ (k = 0 ∧ i = 6 ∧ j = 17) → gI h' k i j = gI h k i j) (l7 : gI h' 0 0 7 = nI l') (l17 : gI h' 0 6 17 = nI l') (s2 : ∀ k i j, gR h' k i j = gR h k i j) (s3 : cs h' = cs h) (hZ : cZ h' ≤ cZ h)
    (new : UJ t l' (fun f => gI h' 1 u f) (fun a => gI h' 0 a u)) (uq : ∀ v, v < cU h → v ≠ u → gI h' 0 18 u = gI h 0 18 v → gI h' 0 18 u = 0) : Inv h' c t l' := by
  obtain ⟨⟨⟨a1, a2, a3, a4, a5, a6⟩, ⟨b1, b2, b3, b4⟩, ⟨d1, d2, d3, d4, d5⟩, ⟨r1, r2⟩, t1, t2, t3⟩, iU, iP, iB, iX, iQ⟩ := I
  have eU := cs_U s3
  have eP := cs_P s3
  have g0 : ∀ j, j ≠ 7 → gI h' 0 0 j = gI h 0 0 j := fun j z => s1 0 0 j (by unfold vis; omega) (by omega) (by omega) (by omega) (by omega)
  have g6 : ∀ j, 1 ≤ j → j ≠ 17 → gI h' 0 6 j = gI h 0 6 j := fun j hj z => s1 0 6 j (by unfold vis; omega) (by omega) (by omega) (by omega) (by omega)
  have ga : ∀ a j, 7 ≤ a → a ≤ 26 → ¬ (7 ≤ a ∧ a ≤ 20 ∧ j = u) → gI h' 0 a j = gI h 0 a j := fun a j x y z => s1 0 a j (by unfold vis; omega) (by omega) (by omega) (by omega) (by omega)
  refine ⟨⟨⟨rfs_R s2 a1, by rw [cs_F s3]; exact a2, by rw [cs_N s3, eP]; exact a3, by rw [eU]; exact a4, by rw [eP]; exact a5, by omega⟩, ?_, ?_, ?_, by omega⟩, fun v hv => ?_, fun q hq => ?_, ?_, fun q hq v hv => ?_, fun v w hv hw n => ?_⟩
  · rw [g0 _ (by decide), g0 _ (by decide), g6 _ (by decide) (by decide), g6 _ (by decide) (by decide), eU, eP]
    exact ⟨b1, b2, b3, b4⟩
  · rw [g0 _ (by decide), g0 _ (by decide), g6 _ (by decide) (by decide), g6 _ (by decide) (by decide)]
    exact ⟨d1, d2, d3, l7, l17⟩
  · rw [eU, eP]
    simp only [s2]
    exact ⟨r1, r2⟩
  · rw [eU] at hv
    by_cases e : v = u
    · rw [e]; exact new
    · exact UJ_congr hl (iU v hv) (fun f => s1 1 v f (by unfold vis; omega) (by omega) (by omega) (by omega) (by omega)) (fun a x y => ga a v x (by omega) (by omega))
  · rw [eP] at hq
    exact PJ_congr (iP q hq) (fun f => s1 2 q f (by unfold vis; omega) (by omega) (by omega) (by omega) (by omega)) (fun a x y => ga a q (by omega) (by omega) (by omega))
  · refine ⟨fun v x y => ?_, fun q x y => ?_⟩
    · rw [eU] at x
      rw [ga 17 _ (by decide) (by decide) (by omega)]
      exact iB.1 v x y
    · rw [eP] at x
      rw [ga 22 _ (by decide) (by decide) (by omega), ga 23 _ (by decide) (by decide) (by omega), ga 24 _ (by decide) (by decide) (by omega), ga 25 _ (by decide) (by decide) (by omega)]
      obtain ⟨z1, z2, z3, z4, z5⟩ := iB.2 q x y
      exact ⟨z1, z2, z3, z4, fun v hv => by rw [ga 26 _ (by decide) (by decide) (by omega)]; exact z5 v hv⟩
  · rw [eP] at hq
    rw [ga 26 _ (by decide) (by decide) (by omega), s1 3 q v (by unfold vis; omega) (by omega) (by omega) (by omega) (by omega)]
    exact iX q hq v hv
  · rw [eU] at hv hw
    intro z
    by_cases e1 : v = u
    · by_cases e2 : w = u
      · exact absurd (e1.trans e2.symm) n
      · rw [e1] at z ⊢
        rw [ga 18 w (by decide) (by decide) (by omega)] at z
        exact uq w hw e2 z
    · by_cases e2 : w = u
      · rw [e2] at z
        rw [ga 18 v (by decide) (by decide) (by omega)] at z
        rw [ga 18 v (by decide) (by decide) (by omega), z]
        exact uq v hv e1 z.symm
      · rw [ga 18 v (by decide) (by decide) (by omega), ga 18 w (by decide) (by decide) (by omega)] at z
        rw [ga 18 v (by decide) (by decide) (by omega)]
        exact iQ v w hv hw n z
/-- a unit is used up -/
theorem us_1 {A B : ev_H} {c t l u : Nat} (I : Inv (mg A B) c t l) (hu : u < cU A) (q : gI A 1 u 8 = 0) : Inv (mg (sI A 1 u 8 5) (sI B 0 15 u 5)) c t l := by
  obtain ⟨⟨⟨k1, k2, k3, k4, k5⟩, k6, k7, k8, k9, k10⟩, ⟨s1, s2, s3⟩, ⟨w1, w2⟩, ⟨a4, a5, a6⟩, z1, z2⟩ := Inv_U I hu
  have qq : gI (mg A B) 1 u 8 = 0 := by rw [mg_c (by omega)]; exact q
  simp only at k1 k2 k3 k4 k5 k6 k7 k8 k9 k10 s1 s2 s3 w1 w2 a4 a5 a6 z1 z2
  have g0 := z1 (stO_01 (g := fun a => gI (mg A B) 0 a u) (Or.inl (by rw [← s1]; exact qq)))
  have rc : ∀ k i j, ¬ (k = 0 ∧ 6 ≤ i ∧ i ≤ 26) → ¬ (k = 1 ∧ i = u ∧ j = 8) → gI (mg (sI A 1 u 8 5) (sI B 0 15 u 5)) k i j = gI (mg A B) k i j := fun k i j z y => by rw [mg_c z, mg_c z, gI_ne y]
  have rm : ∀ i j, 6 ≤ i → i ≤ 26 → ¬ (i = 15 ∧ j = u) → gI (mg (sI A 1 u 8 5) (sI B 0 15 u 5)) 0 i j = gI (mg A B) 0 i j := fun i j x y z => by rw [mg_m x y, mg_m x y, gI_ne (by omega)]
  have r8 : gI (mg (sI A 1 u 8 5) (sI B 0 15 u 5)) 1 u 8 = 5 := by rw [mg_c (by omega)]; exact gI_eq ⟨rfl, rfl, rfl⟩
  have r15 : gI (mg (sI A 1 u 8 5) (sI B 0 15 u 5)) 0 15 u = 5 := by rw [mg_m (by decide) (by decide)]; exact gI_eq ⟨rfl, rfl, rfl⟩
  refine Inv_unit0 I (Nat.le_refl l) I.1.2.2.2.2.2.2 hu (fun k i j v a b c1 d1 => ?_) ?_ ?_ (fun _ _ _ => rfl) rfl (Nat.le_refl _) ?_ ?_
  · by_cases z : k = 0 ∧ 6 ≤ i ∧ i ≤ 26
    · obtain ⟨rfl, x, y⟩ := z
      exact rm i j x y (fun w => b ⟨rfl, by omega, by omega, w.2⟩)
    · exact rc k i j z (fun w => a ⟨w.1, w.2.1⟩)
  · rw [rc 0 0 7 (by omega) (by omega)]
    exact Inv_l I
  · rw [rm 6 17 (by decide) (by decide) (by omega)]
    exact Inv_l2 I
  · unfold UJ stO
    simp (disch := omega) only [rc, rm, r8, r15]
    rw [g0.1] at s2 s3 ⊢
    rw [g0.2] at k9 ⊢
    refine ⟨⟨⟨k1, k2, k3, k4, k5⟩, k6, k7, k8, k9, k10⟩, ⟨?_, ?_, s3⟩, ⟨?_, ?_⟩, ⟨a4, ⟨0, Nat.zero_le _, by decide⟩, ⟨5, by decide, by decide⟩⟩, ?_, ?_⟩
    · simp
    · rw [s2, ← s1, qq]
      simp
    all_goals simp
  · intro v hv n
    rw [rm 18 u (by decide) (by decide) (by omega)]
    exact I.2.2.2.2.2 u v hu hv (fun z => n z.symm)
theorem kp_all {A : ev_H} {u : Nat} {kd mk lim : Int32} (hu : u < cU A) (hn : cU A < 48) (e : gI A 0 0 3 = nI (cU A)) : mE (f_TB_keepProduct A u kd mk lim).2 A ∧ cU (f_TB_keepProduct A u kd mk lim).2 = cU A + 1 ∧ gI (f_TB_keepProduct A u kd mk lim).2 0 0 3 = nI (cU A + 1) ∧ cZ (f_TB_keepProduct A u kd mk lim).2 = cZ A + 1 ∧ (f_TB_keepProduct A u kd mk lim).1 = nI (cU A) ∧ (∀ f, gI (f_TB_keepProduct A u kd mk lim).2 1 u f = gI A 1 u f) ∧ gI (f_TB_keepProduct A u kd mk lim).2 0 0 5 = gI A 0 0 5 := by
  rw [kp_eq hu hn e]
  refine ⟨fun a b x y z => kp_o (by omega) (by omega), rfl, gI_eq ⟨rfl, rfl, rfl⟩, rfl, rfl, fun f => kp_o (by omega) (by omega), kp_o (by omega) (by omega)⟩
theorem ad_all {B : ev_H} {n u : Nat} {kd mk lim : Int32} (hn : n < 48) (hu : u < n) (e : gI B 0 6 2 = nI n) : gI (f_MO_add B (nI u) kd mk lim).2 0 6 2 = nI (n + 1) ∧ (f_MO_add B (nI u) kd mk lim).2.2 = B.2 ∧ (∀ k i j, ¬ (k = 0 ∧ 7 ≤ i ∧ i ≤ 20 ∧ j = n) → ¬ (k = 0 ∧ i = 6 ∧ j = 2) → gI (f_MO_add B (nI u) kd mk lim).2 k i j = gI B k i j) := by
  rw [ad_eq hn (by omega) e]
  unfold adH
  refine ⟨?_, rfl, fun k i j z y => ?_⟩
  · simp (disch := omega) only [gI_ne, gI_eq]
  · simp (disch := omega) only [gI_ne]
/-- a product, on both sides -/
theorem st_pr {A B : ev_H} {c t l u : Nat} (I : Inv (mg A (sI B 0 15 u 5)) c t l) (hu : u < cU A) (hn : cU A < 48) (hZ : cZ A + 1 ≤ 28 + 4 * c) {kd mk lim L : Int32} (hx : (if lim < gI A 1 u 4 then lim else gI A 1 u 4) = adE B u L) : Inv (mg (f_TB_keepProduct A u kd mk lim).2 (sI (f_MO_add B (nI u) kd mk L).2 0 15 u 5)) c t l := by
  obtain ⟨⟨⟨k1, k2, k3, k4, k5⟩, k6, k7, k8, k9, k10⟩, -⟩ := Inv_U I hu
  simp only at k1 k2 k3 k4 k5 k6 k7 k8
  have eA : gI A 0 0 3 = nI (cU A) := by
    have z := Inv_n I
    rw [mg_c (by omega)] at z
    exact z
  have eB : gI B 0 6 2 = nI (cU A) := by
    have z := Inv_n2 I
    rw [mg_m (by decide) (by decide), gI_ne (by omega)] at z
    exact z
  rw [mg_c (by omega), mg_m (by decide) (by decide), gI_ne (by omega)] at k2 k3 k4 k6 k7 k8
  rw [kp_eq hu hn eA, ad_eq hn (by omega) eB, hx]
  refine mg_new I hn ?_ ?_ ?_ ?_ ?_ ?_ ?_ ?_ ?_ ?_ ?_ ?_ ?_ ?_ hZ
  · intro i j a b z y
    unfold adH
    by_cases w : i = 15 ∧ j = u
    · rw [gI_eq (by omega), gI_eq (by omega)]
    · simp (disch := omega) only [gI_ne]
  all_goals (unfold adH; simp (disch := omega) only [gI_ne, gI_eq, k2, k3, k4, k6, k7, k8])
theorem ex_lim {x e : Int32} : (if x < e then x else e) = if e ≤ x then e else x := by
  by_cases z : x < e
  · rw [if_pos z, if_neg (Int32.not_le.mpr z)]
  · rw [if_neg z, if_pos (Int32.not_lt.mp z)]
theorem ex_L {A B : ev_H} {c t l u : Nat} (I : Inv (mg A (sI B 0 15 u 5)) c t l) (hu : u < cU A) {L : Int32} (hL : ¬ L < 0) : (if gI A 0 0 5 + L < gI A 1 u 4 then gI A 0 0 5 + L else gI A 1 u 4) = adE B u L := by
  have k5 := (Inv_U I hu).1.1.2.2.2.2
  simp only at k5
  have t1 := Inv_t I
  have t2 := Inv_t2 I
  rw [mg_c (by omega)] at t1 k5
  rw [mg_m (by decide) (by decide), gI_ne (by omega)] at t2 k5
  unfold adE
  rw [if_neg hL, k5, t1, t2, ex_lim]
theorem ex_0 {A B : ev_H} {c t l u : Nat} (I : Inv (mg A (sI B 0 15 u 5)) c t l) (hu : u < cU A) : (if gI A 1 u 4 < gI A 1 u 4 then gI A 1 u 4 else gI A 1 u 4) = adE B u (-1) := by
  have k5 := (Inv_U I hu).1.1.2.2.2.2
  simp only at k5
  rw [mg_c (by omega)] at k5
  rw [mg_m (by decide) (by decide), gI_ne (by omega)] at k5
  unfold adE
  rw [ite_self, if_pos (show (-1 : Int32) < 0 by decide), k5]
theorem su_eq {x y : Int32} (q : ¬ f_TB_isBelow x 4 = 0) : f_MO_suits y x = f_TB_suits x y := by
  unfold f_MO_suits f_TB_suits
  by_cases a : y = 0 <;> by_cases b : y = 1 <;> by_cases c : y = 2 <;> by_cases d : y = 3 <;> simp_all
