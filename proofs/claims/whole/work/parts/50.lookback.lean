/-! lookback (by program) -/
section
variable {h h1 : ev_H} {c t l : Nat}
theorem rd_c19 (I : Inv h c t l) (e : mE h1 h) : (gI h1 0 6 19).toNatClampNeg = cP h := by
  have := Inv_10 I
  rw [e 6 19 (by decide) (by decide) (fun _ => by decide), Inv_m2 I, nI_clamp (by omega)]
theorem fi_r (I : Inv h c t l) (e : mE h1 h) {d p : Nat} (hd : d < 16) : ∀ n, n ≤ cU h → ∃ m, m ≤ l ∧ r_MO_firstIssue_L5 h1 (nI p) (nI d) n = nI m ∧ r_TB_firstIssue_L5 h (nI p) (1 <<< (nI d &&& 31)) n = nI m - 1 ∧ (m ≠ 0 → ∃ u, u < cU h ∧ gI h 0 18 u = nI m ∧ gI h 0 16 u = nI p)
  | 0, _ => ⟨0, Nat.zero_le _, by rw [r_MO_firstIssue_L5]; decide, by rw [r_TB_firstIssue_L5]; decide, fun z => absurd rfl z⟩
  | n + 1, q => by
    have lb := Inv_lb I
    have hn : n < cU h := by omega
    obtain ⟨m, h0, h2, h3, h4⟩ := fi_r I e (p := p) hd n (by omega)
    obtain ⟨-, ⟨-, -, s3⟩, -, ⟨-, ⟨k, hk, ek⟩, -⟩, -⟩ := Inv_U I hn
    simp only at s3 ek
    rw [r_MO_firstIssue_L5, r_TB_firstIssue_L5, h2, h3, m_MO_firstIssue_L5s_88, m_MO_firstIssue_L5s_55, m_TB_firstIssue_L5s_62, we_0 I hn, rd_u14 I e hn, e 18 n (by decide) (by decide) (fun z => by omega), e 16 n (by decide) (by decide) (fun z => by omega)]
    have ba := bit_a (x := gI h 1 n 3) (a := d) hd
    have keep : ∀ (x y : Int32), x = nI m → y = nI m - 1 → ∃ m, m ≤ l ∧ x = nI m ∧ y = nI m - 1 ∧ (m ≠ 0 → ∃ u, u < cU h ∧ gI h 0 18 u = nI m ∧ gI h 0 16 u = nI p) := fun x y a b => ⟨m, h0, a, b, h4⟩
    by_cases a : gI h 0 18 n ≤ 0
    · rw [if_pos a, if_pos a, if_pos rfl, if_pos rfl]
      exact keep _ _ rfl rfl
    · rw [if_neg a, if_neg a]
      by_cases b : gI h 0 16 n = nI p
      · rw [if_pos b, if_pos b]
        by_cases f : gI h 1 n 3 &&& 1 <<< (nI d &&& 31) = 0
        · rw [if_neg (fun z => ba.mp z f), if_pos rfl, if_neg (show ¬ (1 : Int32) = 0 by decide), if_pos f]
          exact keep _ _ rfl rfl
        · rw [if_pos (ba.mpr f), if_neg (show ¬ (1 : Int32) = 0 by decide), if_neg (show ¬ (1 : Int32) = 0 by decide), if_neg f, s3, ek]
          have k0 : k ≠ 0 := fun z => by rw [ek, z] at a; exact a (by decide)
          obtain ⟨k, rfl⟩ : ∃ k', k = k' + 1 := ⟨k - 1, by omega⟩
          have new : ∀ (x y : Int32), x = nI (k + 1) → y = nI (k + 1) - 1 → ∃ m, m ≤ l ∧ x = nI m ∧ y = nI m - 1 ∧ (m ≠ 0 → ∃ u, u < cU h ∧ gI h 0 18 u = nI m ∧ gI h 0 16 u = nI p) := fun x y a' b' => ⟨k + 1, hk, a', b', fun _ => ⟨n, hn, ek, b⟩⟩
          by_cases m0 : m = 0
          · rw [m0, if_pos (show nI 0 = 0 by decide), if_pos (show nI 0 - 1 = -1 by decide)]
            exact new _ _ rfl rfl
          · obtain ⟨m', rfl⟩ : ∃ m', m = m' + 1 := ⟨m - 1, by omega⟩
            have x1 : ¬ nI (m' + 1) = 0 := nI_ne0 (by omega) (by omega)
            have x2 : ¬ nI (m' + 1) - 1 = -1 := fun w => by
              rw [nI_pred] at w
              have y := nI_pos (n := m') (by omega)
              rw [w] at y
              exact y (by decide)
            rw [if_neg x1, if_neg x2]
            by_cases z : m' ≤ k
            · have y1 : nI (m' + 1) ≤ nI (k + 1) := nI_le (by omega) (by omega)
              have y2 : nI (m' + 1) - 1 ≤ nI (k + 1) - 1 := by rw [nI_pred, nI_pred]; exact nI_le z (by omega)
              rw [if_pos y1, if_pos y2]
              exact keep _ _ rfl rfl
            · have y1 : ¬ nI (m' + 1) ≤ nI (k + 1) := nI_ge (by omega) (by omega)
              have y2 : ¬ nI (m' + 1) - 1 ≤ nI (k + 1) - 1 := by rw [nI_pred, nI_pred]; exact nI_ge (by omega) (by omega)
              rw [if_neg y1, if_neg y2]
              exact new _ _ rfl rfl
      · rw [if_neg b, if_neg b, if_pos rfl, if_pos rfl]
        exact keep _ _ rfl rfl
theorem fi_e (I : Inv h c t l) (e : mE h1 h) {d p : Nat} (hd : d < 16) : ∃ m, m ≤ l ∧ f_MO_firstIssue h1 (nI p) (nI d) = nI m ∧ f_TB_firstIssue h (nI p) (1 <<< (nI d &&& 31)) = nI m - 1 ∧ (m ≠ 0 → ∃ u, u < cU h ∧ gI h 0 18 u = nI m ∧ gI h 0 16 u = nI p) := by
  unfold f_MO_firstIssue f_TB_firstIssue
  rw [rd_c2 I e, rd_c3 I]
  exact fi_r I e hd (cU h) (Nat.le_refl _)
theorem sm_fi {hh : ev_H} (s : sm hh h) {x y : Int32} : f_TB_firstIssue hh x y = f_TB_firstIssue h x y := by
  have z3 : gI hh 0 0 3 = gI h 0 0 3 := s.1 0 0 3 (by unfold vis; omega)
  unfold f_TB_firstIssue
  rw [z3]
  generalize (gI h 0 0 3).toNatClampNeg = n
  induction n with
  | zero => rfl
  | succ n ih =>
    have u1 : ∀ f, gI hh 1 n f = gI h 1 n f := fun f => s.1 1 n f (by unfold vis; omega)
    rw [r_TB_firstIssue_L5, r_TB_firstIssue_L5, ih]
    unfold m_TB_firstIssue_L5s_62 f_UN_wentTo
    simp only [u1]
theorem Rk_lb {h : ev_H} {x1 x2 : Int32} : ∀ n, n ≤ 48 → Rk (r_TB_lookback_L28 (f_RK_empty h) x1 x2 n) h n (fun v => decide (¬ f_TB_firstIssue h (nI v) (1 <<< (x1 &&& 31)) = -1)) (fun v => f_TB_firstIssue h (nI v) (1 <<< (x1 &&& 31)))
  | 0, _ => Rk_0
  | n + 1, q => by
    have R := Rk_lb (h := h) (x1 := x1) (x2 := x2) n (by omega)
    rw [r_TB_lookback_L28, m_TB_lookback_L28s_62, sm_fi R.1]
    by_cases a : f_TB_firstIssue h (nI n) (1 <<< (x1 &&& 31)) = -1
    · rw [if_pos a]
      exact Rk_n R (by simp [a])
    · rw [if_neg a]
      exact Rk_y R (by omega) (by simp [a])
theorem fi_0 (I : Inv h c t l) (e : mE h1 h) {d p : Nat} (hd : d < 16) : (¬ f_MO_firstIssue h1 (nI p) (nI d) ≤ 0) ↔ ¬ f_TB_firstIssue h (nI p) (1 <<< (nI d &&& 31)) = -1 := by
  have lb := Inv_lb I
  obtain ⟨m, h0, h2, h3, -⟩ := fi_e I e (p := p) hd
  rw [h2, h3]
  by_cases m0 : m = 0
  · rw [m0]
    decide
  · obtain ⟨m', rfl⟩ : ∃ m', m = m' + 1 := ⟨m - 1, by omega⟩
    refine ⟨fun _ w => ?_, fun _ => nI_nle (by omega) (by omega)⟩
    rw [nI_pred] at w
    have y := nI_pos (n := m') (by omega)
    rw [w] at y
    exact y (by decide)
theorem bf_lb (I : Inv h c t l) (e : mE h1 h) {d u v : Nat} (hd : d < 16) (hu : u < 48) (hv : v < 48) (pu : ¬ f_MO_firstIssue h1 (nI u) (nI d) ≤ 0) (pv : ¬ f_MO_firstIssue h1 (nI v) (nI d) ≤ 0) : bfr (fun v => f_TB_firstIssue h (nI v) (1 <<< (nI d &&& 31))) v u = decide (¬ f_MO_firstIssue h1 (nI u) (nI d) ≤ f_MO_firstIssue h1 (nI v) (nI d)) := by
  have lb := Inv_lb I
  obtain ⟨mu, hu0, hu2, hu3, hu4⟩ := fi_e I e (p := u) hd
  obtain ⟨mv, hv0, hv2, hv3, hv4⟩ := fi_e I e (p := v) hd
  have qu : mu ≠ 0 := fun z => by rw [hu2, z] at pu; exact pu (by decide)
  have qv : mv ≠ 0 := fun z => by rw [hv2, z] at pv; exact pv (by decide)
  obtain ⟨a, ha, ha1, ha2⟩ := hu4 qu
  obtain ⟨b, hb, hb1, hb2⟩ := hv4 qv
  obtain ⟨ku, rfl⟩ : ∃ k', mu = k' + 1 := ⟨mu - 1, by omega⟩
  obtain ⟨kv, rfl⟩ : ∃ k', mv = k' + 1 := ⟨mv - 1, by omega⟩
  unfold bfr
  refine decide_eq_decide.mpr ?_
  show (f_TB_firstIssue h (nI v) (1 <<< (nI d &&& 31)) < f_TB_firstIssue h (nI u) (1 <<< (nI d &&& 31)) ∨ (f_TB_firstIssue h (nI v) (1 <<< (nI d &&& 31)) = f_TB_firstIssue h (nI u) (1 <<< (nI d &&& 31)) ∧ v < u)) ↔ _
  rw [hu3, hv3, hu2, hv2, nI_pred, nI_pred, nI_ltI (by omega) (by omega), nI_eq (by omega) (by omega), nI_leI (by omega) (by omega)]
  constructor
  · rintro (z | ⟨z1, z2⟩)
    · omega
    · exfalso
      by_cases y : a = b
      · rw [y, hb2, nI_eq (by omega) (by omega)] at ha2
        omega
      · have w := I.2.2.2.2.2 a b ha hb y (by rw [ha1, hb1, z1])
        rw [ha1] at w
        exact nI_ne0 (by omega) (by omega) w
  · intro z
    exact Or.inl (by omega)
theorem rc_lb (I : Inv h c t l) (e : mE h1 h) {d u : Nat} (hd : d < 16) (hu : u < 48) (pu : ¬ f_MO_firstIssue h1 (nI u) (nI d) ≤ 0) {x2 : Int32} : ∀ m, m ≤ 48 → r_MO_lookback_L51 h1 (nI d) x2 (nI u) (f_MO_firstIssue h1 (nI u) (nI d)) m = nI (ct m (fun v => decide (¬ f_TB_firstIssue h (nI v) (1 <<< (nI d &&& 31)) = -1) && bfr (fun v => f_TB_firstIssue h (nI v) (1 <<< (nI d &&& 31))) v u))
  | 0, _ => by rw [r_MO_lookback_L51, ct]; decide
  | m + 1, q => by
    rw [r_MO_lookback_L51, m_MO_lookback_L51s_90, rc_lb I e hd hu pu m (by omega), ct]
    have k := fi_0 I e (p := m) hd
    by_cases a : f_MO_firstIssue h1 (nI m) (nI d) ≤ 0
    · have a2 : f_TB_firstIssue h (nI m) (1 <<< (nI d &&& 31)) = -1 := Classical.byContradiction (fun z => k.mpr z a)
      simp [a, a2]
    · have a2 := k.mp a
      rw [bf_lb I e hd hu (by omega) pu a, if_neg a]
      by_cases b : f_MO_firstIssue h1 (nI u) (nI d) ≤ f_MO_firstIssue h1 (nI m) (nI d)
      · rw [if_pos b]
        simp [b]
      · rw [if_neg b, nI_1]
        simp [a2, b]
end
theorem pr_lookback {h : ev_H} {c t l : Nat} (I : Inv h c t l) (hc : c < 512) {x1 x2 : Int32} : okM (f_LW_lookback h x1 x2) (f_MO_lookback ((f_LW_lookback h x1 x2).2) x1 x2) h c := by
  have l48 := Inv_48 I
  have l10 := Inv_10 I
  have tb := Inv_tb I
  by_cases q1 : (f_TB_isBelow x1 16) = 0
  · have eL : f_LW_lookback h x1 x2 = ((1 : Int32), nx h) := by simp only [f_LW_lookback, if_pos q1]
    have e : mE (nx h) h := mE_sm sm_nx
    have eM : f_MO_lookback (nx h) x1 x2 = (0, sI (nx h) 0 6 0 1) := by simp [f_MO_lookback, m_MO_lookback_16, f_MO_lookback_16, in_below (x := x1) (m := 15) (n := 16) (by decide), q1, refused_0, refused_2, refused_3, refused_4, f_MO_refused1]
    rw [eL]
    show okM (1, nx h) (f_MO_lookback (nx h) x1 x2) h c
    rw [eM]
    exact okM_rf I hc (by decide)
  · have eL : f_LW_lookback h x1 x2 = ((0 : Int32), sL (r_TB_lookback_L28 (f_RK_empty h) x1 x2 (gI (f_RK_empty h) 0 0 4).toNatClampNeg) 0 27 0 ((f_RK_at (r_TB_lookback_L28 (f_RK_empty h) x1 x2 (gI (f_RK_empty h) 0 0 4).toNatClampNeg) x2).toInt64)) := by simp only [f_LW_lookback, if_neg q1]
    rw [eL]
    show okM (0, sL (r_TB_lookback_L28 (f_RK_empty h) x1 x2 (gI (f_RK_empty h) 0 0 4).toNatClampNeg) 0 27 0 ((f_RK_at (r_TB_lookback_L28 (f_RK_empty h) x1 x2 (gI (f_RK_empty h) 0 0 4).toNatClampNeg) x2).toInt64)) (f_MO_lookback (sL (r_TB_lookback_L28 (f_RK_empty h) x1 x2 (gI (f_RK_empty h) 0 0 4).toNatClampNeg) 0 27 0 ((f_RK_at (r_TB_lookback_L28 (f_RK_empty h) x1 x2 (gI (f_RK_empty h) 0 0 4).toNatClampNeg) x2).toInt64)) x1 x2) h c
    have n4 : (gI (f_RK_empty h) 0 0 4).toNatClampNeg = cP h := by unfold f_RK_empty; rw [gI_ne (by omega), Inv_m I, nI_clamp (by omega)]
    rw [n4]
    obtain ⟨d, hd, ed⟩ := isB_ex (n := 16) (by decide) q1
    have R := Rk_lb (h := h) (x1 := x1) (x2 := x2) (cP h) (by omega)
    have e0 : mE (sL (r_TB_lookback_L28 (f_RK_empty h) x1 x2 (cP h)) 0 27 0 ((f_RK_at (r_TB_lookback_L28 (f_RK_empty h) x1 x2 (cP h)) x2).toInt64)) h := mE_sm (sm_tr sm_sL R.1)
    have e : mE (sI (sL (r_TB_lookback_L28 (f_RK_empty h) x1 x2 (cP h)) 0 27 0 ((f_RK_at (r_TB_lookback_L28 (f_RK_empty h) x1 x2 (cP h)) x2).toInt64)) 0 6 0 0) h := mE_tr (mE_k (by omega)) e0
    have c2 := rd_c19 I e
    have w : res_MO_lookback_O29 (sI (sL (r_TB_lookback_L28 (f_RK_empty h) x1 x2 (cP h)) 0 27 0 ((f_RK_at (r_TB_lookback_L28 (f_RK_empty h) x1 x2 (cP h)) x2).toInt64)) 0 6 0 0) x1 x2 (cP h) (cP h) = f_RK_at (r_TB_lookback_L28 (f_RK_empty h) x1 x2 (cP h)) x2 := by
      rw [rs_lookback]
      refine rs_ans R (by omega) (fun a ha => ?_)
      unfold res_MO_lookback_O29_c
      rw [c2]
      have k := fi_0 I e (p := a) hd
      have rc := fun pu => rc_lb I e hd (show a < 48 by omega) pu (x2 := x2) (cP h) (by omega)
      rw [← ed] at k rc
      constructor
      · rintro ⟨z1, z3⟩
        rw [rc z1] at z3
        exact ⟨decide_eq_true (k.mp z1), z3⟩
      · rintro ⟨z1, z2⟩
        have y1 := k.mpr (of_decide_eq_true z1)
        refine ⟨y1, ?_⟩
        rw [rc y1]
        exact z2
    have eM : f_MO_lookback (sL (r_TB_lookback_L28 (f_RK_empty h) x1 x2 (cP h)) 0 27 0 ((f_RK_at (r_TB_lookback_L28 (f_RK_empty h) x1 x2 (cP h)) x2).toInt64)) x1 x2 = (f_RK_at (r_TB_lookback_L28 (f_RK_empty h) x1 x2 (cP h)) x2, (sI (sL (r_TB_lookback_L28 (f_RK_empty h) x1 x2 (cP h)) 0 27 0 ((f_RK_at (r_TB_lookback_L28 (f_RK_empty h) x1 x2 (cP h)) x2).toInt64)) 0 6 0 0)) := by
      simp only [f_MO_lookback, m_MO_lookback_16, f_MO_lookback_16, in_below (x := x1) (m := 15) (n := 16) (by decide), q1, if_false, if_true, refused_0, c2, w]
    rw [eM]
    exact okM_r I hc R.1 R.2.1
