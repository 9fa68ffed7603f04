/-! received (by program) -/
section
variable {h h1 : ev_H} {c t l : Nat}
theorem we_0 (I : Inv h c t l) {v : Nat} (hv : v < cU h) {x : Int32} : f_UN_wentTo h v x = if gI h 0 18 v ≤ 0 then 0 else (if gI h 0 16 v = x then 1 else 0) := by
  have lb := Inv_lb I
  obtain ⟨-, ⟨s1, s2, s3⟩, -, ⟨-, ⟨k, hk, ek⟩, -⟩, -⟩ := Inv_U I hv
  simp only at s1 s2 s3 ek
  rw [f_UN_wentTo, s3, s2, ek]
  by_cases z : k = 0
  · rw [z]
    have a1 : nI 0 ≤ 0 := by decide
    have a2 : nI 0 - 1 = -1 := by decide
    rw [if_pos a1, if_pos a2]
  · obtain ⟨k', rfl⟩ : ∃ k', k = k' + 1 := ⟨k - 1, by omega⟩
    have a1 : ¬ nI (k' + 1) ≤ 0 := nI_nle (by omega) (by omega)
    have a2 : ¬ nI (k' + 1) - 1 = -1 := fun w => by
      rw [nI_pred] at w
      have y := nI_pos (n := k') (by omega)
      rw [w] at y
      exact y (by decide)
    have a3 : 0 < nI (k' + 1) := nI_lt (a := 0) (by omega) (by omega)
    rw [if_neg a1, if_neg a2, if_pos a3]
theorem Rk_re (I : Inv h c t l) {x1 x2 : Int32} : ∀ n, n ≤ 48 → Rk (r_TB_received_L15 (f_RK_empty h) x1 x2 n) h n (fun v => decide (¬ f_UN_wentTo h v x1 = 0)) (fun v => gI h 1 v 12)
  | 0, _ => Rk_0
  | n + 1, q => by
    have R := Rk_re I (x1 := x1) (x2 := x2) n (by omega)
    have s := R.1
    have u1 : ∀ f, gI (r_TB_received_L15 (f_RK_empty h) x1 x2 n) 1 n f = gI h 1 n f := fun f => s.1 1 n f (by unfold vis; omega)
    have v1 : f_UN_wentTo (r_TB_received_L15 (f_RK_empty h) x1 x2 n) n x1 = f_UN_wentTo h n x1 := by unfold f_UN_wentTo; rw [u1, u1]
    rw [r_TB_received_L15, m_TB_received_L15s_53, v1, u1]
    by_cases a : f_UN_wentTo h n x1 = 0
    · rw [if_pos a]
      exact Rk_n R (by simp [a])
    · rw [if_neg a]
      exact Rk_y R (by omega) (by simp [a])
theorem we_1 (I : Inv h c t l) {v : Nat} (hv : v < cU h) {x : Int32} : ¬ f_UN_wentTo h v x = 0 ↔ (¬ gI h 0 18 v ≤ 0 ∧ gI h 0 16 v = x) := by
  rw [we_0 I hv]
  by_cases a : gI h 0 18 v ≤ 0 <;> by_cases b : gI h 0 16 v = x <;> simp [a, b]
/-- among those given out the order of issue tells them apart -/
theorem bf_re (I : Inv h c t l) {u v : Nat} (hu : u < cU h) (hv : v < cU h) (pu : ¬ gI h 0 18 u ≤ 0) (pv : ¬ gI h 0 18 v ≤ 0) : bfr (fun v => gI h 1 v 12) v u = decide (¬ gI h 0 18 u ≤ gI h 0 18 v) := by
  have lb := Inv_lb I
  obtain ⟨-, ⟨-, -, su⟩, -, ⟨-, ⟨ku, hku, eku⟩, -⟩, -⟩ := Inv_U I hu
  obtain ⟨-, ⟨-, -, sv⟩, -, ⟨-, ⟨kv, hkv, ekv⟩, -⟩, -⟩ := Inv_U I hv
  simp only at su sv eku ekv
  have qu : ku ≠ 0 := fun z => by rw [eku, z] at pu; exact pu (by decide)
  have qv : kv ≠ 0 := fun z => by rw [ekv, z] at pv; exact pv (by decide)
  obtain ⟨ku, rfl⟩ : ∃ k', ku = k' + 1 := ⟨ku - 1, by omega⟩
  obtain ⟨kv, rfl⟩ : ∃ k', kv = k' + 1 := ⟨kv - 1, by omega⟩
  unfold bfr
  refine decide_eq_decide.mpr ?_
  show (gI h 1 v 12 < gI h 1 u 12 ∨ (gI h 1 v 12 = gI h 1 u 12 ∧ v < u)) ↔ _
  rw [su, sv, eku, ekv, nI_pred, nI_pred]
  rw [nI_ltI (by omega) (by omega), nI_eq (by omega) (by omega), nI_leI (by omega) (by omega)]
  constructor
  · rintro (z | ⟨z1, z2⟩)
    · omega
    · exfalso
      have w := I.2.2.2.2.2 u v hu hv (by omega) (by rw [eku, ekv, z1])
      rw [w] at pu
      exact pu (by decide)
  · intro z
    exact Or.inl (by omega)
theorem rc_re (I : Inv h c t l) (e : mE h1 h) {u : Nat} (hu : u < cU h) (pu : ¬ gI h 0 18 u ≤ 0) {x1 x2 : Int32} : ∀ m, m ≤ cU h → r_MO_received_L41 h1 x1 x2 (nI u) m = nI (ct m (fun v => decide (¬ f_UN_wentTo h v x1 = 0) && bfr (fun v => gI h 1 v 12) v u))
  | 0, _ => by rw [r_MO_received_L41, ct]; decide
  | m + 1, q => by
    have l48 := Inv_48 I
    rw [r_MO_received_L41, m_MO_received_L41s_96, rc_re I e hu pu m (by omega), ct, nI_clamp (show u < 2 ^ 31 by omega), e 18 m (by decide) (by decide) (fun z => by omega), e 16 m (by decide) (by decide) (fun z => by omega), e 18 u (by decide) (by decide) (fun z => by omega), we_0 I (show m < cU h by omega)]
    by_cases a : gI h 0 18 m ≤ 0
    · simp [a]
    · by_cases b : gI h 0 16 m = x1
      · rw [bf_re I hu (show m < cU h by omega) pu a, if_neg a, if_neg a, if_pos b, if_pos b]
        by_cases d : gI h 0 18 u ≤ gI h 0 18 m
        · rw [if_pos d]
          simp [d]
        · rw [if_neg d, nI_1]
          simp [d]
      · simp [a, b]
end
theorem pr_received_0 {h : ev_H} {c t l : Nat} (I : Inv h c t l) (hc : c < 512) {x1 x2 : Int32} (v0 : f_TB_isBelow x1 (gI h 0 0 4) = 0) : okM (f_LW_received h x1 x2) (f_MO_received_0 ((f_LW_received h x1 x2).2) x1 x2) h c := by
  have eL : f_LW_received h x1 x2 = (1, nx h) := by simp only [f_LW_received, if_pos v0]
  rw [eL]
  exact okM_rf I hc (by decide)
theorem pr_received_1 {h : ev_H} {c t l : Nat} (I : Inv h c t l) (hc : c < 512) {p : Nat} (hp : p < cP h) {x2 : Int32} : okM (f_LW_received h (nI p) x2) (f_MO_received_1 ((f_LW_received h (nI p) x2).2) (nI p) x2) h c := by
  have l48 := Inv_48 I
  have l10 := Inv_10 I
  have tb := Inv_tb I
  have cp : (nI p).toNatClampNeg = p := nI_clamp (by omega)
  have vp : ¬ f_TB_isBelow (nI p) (gI h 0 0 4) = 0 := by rw [Inv_m I, isB_mk (by omega) hp]; decide
  have sp := nI_pos (n := p) (by omega)
  have eL : f_LW_received h (nI p) x2 = ((0 : Int32), sL (r_TB_received_L15 (f_RK_empty h) (nI p) x2 (gI (f_RK_empty h) 0 0 3).toNatClampNeg) 0 27 0 ((f_RK_at (r_TB_received_L15 (f_RK_empty h) (nI p) x2 (gI (f_RK_empty h) 0 0 3).toNatClampNeg) x2).toInt64)) := by simp only [f_LW_received, cp, if_neg vp]
  rw [eL]
  show okM (0, sL (r_TB_received_L15 (f_RK_empty h) (nI p) x2 (gI (f_RK_empty h) 0 0 3).toNatClampNeg) 0 27 0 ((f_RK_at (r_TB_received_L15 (f_RK_empty h) (nI p) x2 (gI (f_RK_empty h) 0 0 3).toNatClampNeg) x2).toInt64)) (f_MO_received_1 (sL (r_TB_received_L15 (f_RK_empty h) (nI p) x2 (gI (f_RK_empty h) 0 0 3).toNatClampNeg) 0 27 0 ((f_RK_at (r_TB_received_L15 (f_RK_empty h) (nI p) x2 (gI (f_RK_empty h) 0 0 3).toNatClampNeg) x2).toInt64)) (nI p) x2) h c
  have n3 : (gI (f_RK_empty h) 0 0 3).toNatClampNeg = cU h := by unfold f_RK_empty; rw [gI_ne (by omega)]; exact rd_c3 I
  rw [n3]
  have R := Rk_re I (x1 := nI p) (x2 := x2) (cU h) l48
  have e0 : mE (sL (r_TB_received_L15 (f_RK_empty h) (nI p) x2 (cU h)) 0 27 0 ((f_RK_at (r_TB_received_L15 (f_RK_empty h) (nI p) x2 (cU h)) x2).toInt64)) h := mE_sm (sm_tr sm_sL R.1)
  have e : mE (sI (sL (r_TB_received_L15 (f_RK_empty h) (nI p) x2 (cU h)) 0 27 0 ((f_RK_at (r_TB_received_L15 (f_RK_empty h) (nI p) x2 (cU h)) x2).toInt64)) 0 6 0 0) h := mE_tr (mE_k (by omega)) e0
  have c2 := rd_c2 I e
  have w : res_MO_received_O27 (sI (sL (r_TB_received_L15 (f_RK_empty h) (nI p) x2 (cU h)) 0 27 0 ((f_RK_at (r_TB_received_L15 (f_RK_empty h) (nI p) x2 (cU h)) x2).toInt64)) 0 6 0 0) (nI p) x2 (cU h) (cU h) = f_RK_at (r_TB_received_L15 (f_RK_empty h) (nI p) x2 (cU h)) x2 := by
    rw [rs_received]
    refine rs_ans R l48 (fun a ha => ?_)
    unfold res_MO_received_O27_c
    rw [c2, e 18 a (by decide) (by decide) (fun z => by omega), e 16 a (by decide) (by decide) (fun z => by omega)]
    constructor
    · rintro ⟨z1, z2, z3⟩
      rw [rc_re I e ha z1 (cU h) (Nat.le_refl _)] at z3
      exact ⟨decide_eq_true ((we_1 I ha).mpr ⟨z1, z2⟩), z3⟩
    · rintro ⟨z1, z2⟩
      obtain ⟨y1, y2⟩ := (we_1 I ha).mp (of_decide_eq_true z1)
      refine ⟨y1, y2, ?_⟩
      rw [rc_re I e ha y1 (cU h) (Nat.le_refl _)]
      exact z2
  have eM : f_MO_received_1 (sL (r_TB_received_L15 (f_RK_empty h) (nI p) x2 (cU h)) 0 27 0 ((f_RK_at (r_TB_received_L15 (f_RK_empty h) (nI p) x2 (cU h)) x2).toInt64)) (nI p) x2 = (f_RK_at (r_TB_received_L15 (f_RK_empty h) (nI p) x2 (cU h)) x2, (sI (sL (r_TB_received_L15 (f_RK_empty h) (nI p) x2 (cU h)) 0 27 0 ((f_RK_at (r_TB_received_L15 (f_RK_empty h) (nI p) x2 (cU h)) x2).toInt64)) 0 6 0 0)) := by
    simp only [f_MO_received_1, if_true, refused_0, c2, w]
  rw [eM]
  exact okM_r I hc R.1 R.2.1
