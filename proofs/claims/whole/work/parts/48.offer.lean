/-! offer, expiring (by program) -/
theorem sm_ready {hh h : ev_H} (s : sm hh h) (v : Nat) : f_TB_isReady hh v = f_TB_isReady h v := by
  have u1 : ∀ f, gI hh 1 v f = gI h 1 v f := fun f => s.1 1 v f (by unfold vis; omega)
  have z1 : ∀ j, gI hh 0 0 j = gI h 0 0 j := fun j => s.1 0 0 j (by unfold vis; omega)
  unfold f_TB_isReady f_TB_isUsable f_UN_isExpired f_UN_isBarred
  simp only [u1, z1]
theorem sm_reason {hh h : ev_H} (s : sm hh h) (p v : Nat) : f_RU_reason hh p v = f_RU_reason h p v := by
  have u1 : ∀ f, gI hh 1 v f = gI h 1 v f := fun f => s.1 1 v f (by unfold vis; omega)
  have z1 : ∀ f, gI hh 2 p f = gI h 2 p f := fun f => s.1 2 p f (by unfold vis; omega)
  unfold f_RU_reason f_RU_groupFits f_PA_groupOr f_PA_isConfirmedWithRhesus
  simp only [u1, z1]
def ofC (h : ev_H) (p : Nat) (x2 : Int32) (v : Nat) : Int32 := if gI h 1 v 0 = x2 then (if f_TB_isReady h v = 0 then 0 else (if f_RU_reason h p v = 0 then 1 else 0)) else 0
def exC (h : ev_H) (x1 : Int32) (v : Nat) : Int32 := if f_UN_isInHouse h v = 0 then 0 else (if f_UN_isExpired h v (gI h 0 0 5) = 0 then (if f_UN_isExpired h v (gI h 0 0 5 + x1) = 0 then 0 else 1) else 0)
theorem Rk_of {h : ev_H} {p : Nat} {x1 x2 x3 : Int32} : ∀ n, n ≤ 48 → Rk (r_TB_offer_L36 (f_RK_empty h) x1 x2 x3 p n) h n (fun v => decide (¬ ofC h p x2 v = 0)) (fun v => gI h 1 v 4)
  | 0, _ => Rk_0
  | n + 1, q => by
    have R := Rk_of (h := h) (p := p) (x1 := x1) (x2 := x2) (x3 := x3) n (by omega)
    have s := R.1
    have u1 : ∀ f, gI (r_TB_offer_L36 (f_RK_empty h) x1 x2 x3 p n) 1 n f = gI h 1 n f := fun f => s.1 1 n f (by unfold vis; omega)
    rw [r_TB_offer_L36, m_TB_offer_L36s_96, u1, u1, sm_ready s, sm_reason s]
    by_cases a : gI h 1 n 0 = x2
    · rw [if_pos a]
      by_cases b : f_TB_isReady h n = 0
      · rw [if_pos b]
        exact Rk_n R (by simp [ofC, a, b])
      · rw [if_neg b]
        by_cases d : f_RU_reason h p n = 0
        · rw [if_pos d]
          exact Rk_y R (by omega) (by simp [ofC, a, b, d])
        · rw [if_neg d]
          exact Rk_n R (by simp [ofC, a, b, d])
    · rw [if_neg a]
      exact Rk_n R (by simp [ofC, a])
theorem Rk_ex {h : ev_H} {x1 x2 : Int32} : ∀ n, n ≤ 48 → Rk (r_TB_expiring_L30 (f_RK_empty h) x1 x2 n) h n (fun v => decide (¬ exC h x1 v = 0)) (fun v => gI h 1 v 4)
  | 0, _ => Rk_0
  | n + 1, q => by
    have R := Rk_ex (h := h) (x1 := x1) (x2 := x2) n (by omega)
    have s := R.1
    have u1 : ∀ f, gI (r_TB_expiring_L30 (f_RK_empty h) x1 x2 n) 1 n f = gI h 1 n f := fun f => s.1 1 n f (by unfold vis; omega)
    have z5 : gI (r_TB_expiring_L30 (f_RK_empty h) x1 x2 n) 0 0 5 = gI h 0 0 5 := s.1 0 0 5 (by unfold vis; omega)
    have v1 : f_UN_isInHouse (r_TB_expiring_L30 (f_RK_empty h) x1 x2 n) n = f_UN_isInHouse h n := by unfold f_UN_isInHouse; rw [u1]
    have v2 : ∀ y, f_UN_isExpired (r_TB_expiring_L30 (f_RK_empty h) x1 x2 n) n y = f_UN_isExpired h n y := fun y => by unfold f_UN_isExpired; rw [u1]
    rw [r_TB_expiring_L30, m_TB_expiring_L30s_93, v1, v2, v2, z5, u1]
    by_cases a : f_UN_isInHouse h n = 0
    · rw [if_pos a]
      exact Rk_n R (by simp [exC, a])
    · rw [if_neg a]
      by_cases b : f_UN_isExpired h n (gI h 0 0 5) = 0
      · rw [if_pos b]
        by_cases d : f_UN_isExpired h n (gI h 0 0 5 + x1) = 0
        · rw [if_pos d]
          exact Rk_n R (by simp [exC, a, b, d])
        · rw [if_neg d]
          exact Rk_y R (by omega) (by simp [exC, a, b, d])
      · rw [if_neg b]
        exact Rk_n R (by simp [exC, a, b])
section
variable {h h1 : ev_H} {c t l : Nat}
theorem ag_off (I : Inv h c t l) (e : mE h1 h) {p v : Nat} (hp : p < cP h) (hv : v < cU h) {x2 : Int32} : f_MO_isOffered h1 (nI p) x2 (nI v) = ofC h p x2 v := by
  have l48 := Inv_48 I
  unfold f_MO_isOffered ofC
  rw [nI_clamp (by omega), rd_u7 I e hv, ag_ready I e hv, ag_reason I e hp hv]
theorem ag_exi (I : Inv h c t l) (e : mE h1 h) {v : Nat} (hv : v < cU h) {x1 : Int32} : f_MO_expiresIn h1 (nI v) x1 = exC h x1 v := by
  have l48 := Inv_48 I
  unfold f_MO_expiresIn exC f_UN_isInHouse
  rw [nI_clamp (by omega), rd_u13 I e hv, ag_state I e hv, ag_exp I e hv, rd_nw I e]
  have w : f_UN_isExpired h v (gI h 0 0 5 + x1) = if gI h 0 0 5 + x1 < gI h 1 v 4 then 0 else 1 := rfl
  rw [w]
  by_cases a : gI h 1 v 8 = 0 <;> by_cases b : gI h 1 v 8 = 1 <;> by_cases d : f_UN_isExpired h v (gI h 0 0 5) = 0 <;> by_cases f : gI h 0 0 5 + x1 < gI h 1 v 4 <;> simp [a, b, d, f]
theorem ag_bef (I : Inv h c t l) (e : mE h1 h) {u v : Nat} (hu : u < cU h) (hv : v < cU h) : (f_MO_isBefore h1 (nI v) (nI u) = 0) ↔ bfr (fun v => gI h 1 v 4) v u = false := by
  have l48 := Inv_48 I
  unfold f_MO_isBefore bfr
  rw [nI_clamp (show v < 2 ^ 31 by omega), nI_clamp (show u < 2 ^ 31 by omega), rd_u13 I e hv, rd_u13 I e hu]
  have k : (nI u ≤ nI v) = (u ≤ v) := propext (nI_leI (by omega) (by omega))
  simp only [k]
  by_cases a : gI h 1 v 4 < gI h 1 u 4
  · simp [a]
  · by_cases b : gI h 1 v 4 = gI h 1 u 4
    · by_cases d : u ≤ v
      · simp [b, d, Int32.lt_irrefl]
      · simp [b, d, Int32.lt_irrefl]
    · simp [a, b]
theorem rc_of (I : Inv h c t l) (e : mE h1 h) {p u : Nat} (hp : p < cP h) (hu : u < cU h) {x2 x3 : Int32} : ∀ m, m ≤ cU h → r_MO_offer_L56 h1 (nI p) x2 x3 (nI u) m = nI (ct m (fun v => decide (¬ ofC h p x2 v = 0) && bfr (fun v => gI h 1 v 4) v u))
  | 0, _ => by rw [r_MO_offer_L56, ct]; decide
  | m + 1, q => by
    rw [r_MO_offer_L56, m_MO_offer_L56s_96, rc_of I e hp hu m (by omega), ct, ag_off I e hp (by omega)]
    have k := ag_bef I e hu (show m < cU h by omega)
    by_cases a : ofC h p x2 m = 0
    · simp [a]
    · cases b : bfr (fun v => gI h 1 v 4) m u with
      | false => rw [if_neg a, if_pos (k.mpr b)]; simp
      | true =>
        rw [if_neg a, if_neg (fun z => by rw [k.mp z] at b; exact Bool.noConfusion b), nI_1]
        simp [a]
theorem rc_ex (I : Inv h c t l) (e : mE h1 h) {u : Nat} (hu : u < cU h) {x1 x2 : Int32} : ∀ m, m ≤ cU h → r_MO_expiring_L43 h1 x1 x2 (nI u) m = nI (ct m (fun v => decide (¬ exC h x1 v = 0) && bfr (fun v => gI h 1 v 4) v u))
  | 0, _ => by rw [r_MO_expiring_L43, ct]; decide
  | m + 1, q => by
    rw [r_MO_expiring_L43, m_MO_expiring_L43s_81, rc_ex I e hu m (by omega), ct, ag_exi I e (by omega)]
    have k := ag_bef I e hu (show m < cU h by omega)
    by_cases a : exC h x1 m = 0
    · simp [a]
    · cases b : bfr (fun v => gI h 1 v 4) m u with
      | false => rw [if_neg a, if_pos (k.mpr b)]; simp
      | true =>
        rw [if_neg a, if_neg (fun z => by rw [k.mp z] at b; exact Bool.noConfusion b), nI_1]
        simp [a]
/-- a question that writes of the ranking alone -/
theorem okM_r (I : Inv h c t l) (hc : c < 512) {hh : ev_H} (s : sm hh h) (z : cZ hh = cZ h) {x : Int32} : okM (0, sL hh 0 27 0 x.toInt64) (x, sI (sL hh 0 27 0 x.toInt64) 0 6 0 0) h c :=
  ⟨⟨mE_sm (sm_tr sm_sL s), rfs_R (h := h) (fun k i j => s.2.1 k i j) (Inv_R I)⟩, rfl, fun _ => lg_self _, t, l, Inv_sm I (sm_tr sm_60 (sm_tr sm_sL s)) (by rw [cZ_sI, cZ_sL, z]; omega) hc⟩
end
theorem pr_offer_0 {h : ev_H} {c t l : Nat} (I : Inv h c t l) (hc : c < 512) {x1 x2 x3 : Int32} (v0 : f_TB_isBelow x1 (gI h 0 0 4) = 0) : okM (f_LW_offer h x1 x2 x3) (f_MO_offer_0 ((f_LW_offer h x1 x2 x3).2) x1 x2 x3) h c := by
  have eL : f_LW_offer h x1 x2 x3 = (1, nx h) := by simp only [f_LW_offer, if_pos v0]
  rw [eL]
  exact okM_rf I hc (by decide)
theorem pr_offer_1 {h : ev_H} {c t l : Nat} (I : Inv h c t l) (hc : c < 512) {p : Nat} (hp : p < cP h) {x2 x3 : Int32} : okM (f_LW_offer h (nI p) x2 x3) (f_MO_offer_1 ((f_LW_offer h (nI p) x2 x3).2) (nI p) x2 x3) h c := by
  have l48 := Inv_48 I
  have l10 := Inv_10 I
  have tb := Inv_tb I
  have cp : (nI p).toNatClampNeg = p := nI_clamp (by omega)
  have vp : ¬ f_TB_isBelow (nI p) (gI h 0 0 4) = 0 := by rw [Inv_m I, isB_mk (by omega) hp]; decide
  have sp := nI_pos (n := p) (by omega)
  by_cases q1 : (f_TB_isBelow x2 4) = 0
  · have eL : f_LW_offer h (nI p) x2 x3 = ((2 : Int32), nx h) := by simp only [f_LW_offer, cp, if_neg vp, if_pos q1]
    have e : mE (nx h) h := mE_sm sm_nx
    have eM : f_MO_offer_1 (nx h) (nI p) x2 x3 = (0, sI (nx h) 0 6 0 2) := by simp [f_MO_offer_1, m_MO_offer_1_28, f_MO_offer_1_28, cp, rd_p22 I e hp, rd_p23 I e hp, rd_p24 I e hp, rd_p25 I e hp, in_below (x := x2) (m := 3) (n := 4) (by decide), q1, refused_0, refused_2, refused_3, refused_4, f_MO_refused1]
    rw [eL]
    show okM (2, nx h) (f_MO_offer_1 (nx h) (nI p) x2 x3) h c
    rw [eM]
    exact okM_rf I hc (by decide)
  · have eL : f_LW_offer h (nI p) x2 x3 = ((0 : Int32), sL (r_TB_offer_L36 (f_RK_empty h) (nI p) x2 x3 p (gI (f_RK_empty h) 0 0 3).toNatClampNeg) 0 27 0 ((f_RK_at (r_TB_offer_L36 (f_RK_empty h) (nI p) x2 x3 p (gI (f_RK_empty h) 0 0 3).toNatClampNeg) x3).toInt64)) := by simp only [f_LW_offer, cp, if_neg vp, if_neg q1]
    rw [eL]
    show okM (0, sL (r_TB_offer_L36 (f_RK_empty h) (nI p) x2 x3 p (gI (f_RK_empty h) 0 0 3).toNatClampNeg) 0 27 0 ((f_RK_at (r_TB_offer_L36 (f_RK_empty h) (nI p) x2 x3 p (gI (f_RK_empty h) 0 0 3).toNatClampNeg) x3).toInt64)) (f_MO_offer_1 (sL (r_TB_offer_L36 (f_RK_empty h) (nI p) x2 x3 p (gI (f_RK_empty h) 0 0 3).toNatClampNeg) 0 27 0 ((f_RK_at (r_TB_offer_L36 (f_RK_empty h) (nI p) x2 x3 p (gI (f_RK_empty h) 0 0 3).toNatClampNeg) x3).toInt64)) (nI p) x2 x3) h c
    have n3 : (gI (f_RK_empty h) 0 0 3).toNatClampNeg = cU h := by unfold f_RK_empty; rw [gI_ne (by omega)]; exact rd_c3 I
    rw [n3]
    have R := Rk_of (h := h) (p := p) (x1 := nI p) (x2 := x2) (x3 := x3) (cU h) l48
    have e0 : mE (sL (r_TB_offer_L36 (f_RK_empty h) (nI p) x2 x3 p (cU h)) 0 27 0 ((f_RK_at (r_TB_offer_L36 (f_RK_empty h) (nI p) x2 x3 p (cU h)) x3).toInt64)) h := mE_sm (sm_tr sm_sL R.1)
    have e : mE (sI (sL (r_TB_offer_L36 (f_RK_empty h) (nI p) x2 x3 p (cU h)) 0 27 0 ((f_RK_at (r_TB_offer_L36 (f_RK_empty h) (nI p) x2 x3 p (cU h)) x3).toInt64)) 0 6 0 0) h := mE_tr (mE_k (by omega)) e0
    have c2 := rd_c2 I e
    have w : res_MO_offer_O41 (sI (sL (r_TB_offer_L36 (f_RK_empty h) (nI p) x2 x3 p (cU h)) 0 27 0 ((f_RK_at (r_TB_offer_L36 (f_RK_empty h) (nI p) x2 x3 p (cU h)) x3).toInt64)) 0 6 0 0) (nI p) x2 x3 (cU h) (cU h) = f_RK_at (r_TB_offer_L36 (f_RK_empty h) (nI p) x2 x3 p (cU h)) x3 := by
      rw [rs_offer]
      refine rs_ans R l48 (fun a ha => ?_)
      unfold res_MO_offer_O41_c
      rw [c2, rc_of I e hp ha (cU h) (Nat.le_refl _), ag_off I e hp ha]
      constructor
      · rintro ⟨z1, z2⟩
        exact ⟨decide_eq_true z2, z1⟩
      · rintro ⟨z1, z2⟩
        exact ⟨z2, of_decide_eq_true z1⟩
    have eM : f_MO_offer_1 (sL (r_TB_offer_L36 (f_RK_empty h) (nI p) x2 x3 p (cU h)) 0 27 0 ((f_RK_at (r_TB_offer_L36 (f_RK_empty h) (nI p) x2 x3 p (cU h)) x3).toInt64)) (nI p) x2 x3 = (f_RK_at (r_TB_offer_L36 (f_RK_empty h) (nI p) x2 x3 p (cU h)) x3, (sI (sL (r_TB_offer_L36 (f_RK_empty h) (nI p) x2 x3 p (cU h)) 0 27 0 ((f_RK_at (r_TB_offer_L36 (f_RK_empty h) (nI p) x2 x3 p (cU h)) x3).toInt64)) 0 6 0 0)) := by
      simp only [f_MO_offer_1, f_MO_offer_1_28, m_MO_offer_1_28, in_below (x := x2) (m := 3) (n := 4) (by decide), q1, if_false, if_true, refused_0, c2, w]
    rw [eM]
    exact okM_r I hc R.1 R.2.1
theorem pr_expiring {h : ev_H} {c t l : Nat} (I : Inv h c t l) (hc : c < 512) {x1 x2 : Int32} : okM (f_LW_expiring h x1 x2) (f_MO_expiring ((f_LW_expiring h x1 x2).2) x1 x2) h c := by
  have l48 := Inv_48 I
  have l10 := Inv_10 I
  have tb := Inv_tb I
  by_cases q1 : x1 < 0
  · have eL : f_LW_expiring h x1 x2 = ((1 : Int32), nx h) := by simp only [f_LW_expiring, if_pos q1]
    have e : mE (nx h) h := mE_sm sm_nx
    have eM : f_MO_expiring (nx h) x1 x2 = (0, sI (nx h) 0 6 0 1) := by simp [f_MO_expiring, m_MO_expiring_16, f_MO_expiring_16, in_lo q1, q1, refused_0, refused_2, refused_3, refused_4, f_MO_refused1]
    rw [eL]
    show okM (1, nx h) (f_MO_expiring (nx h) x1 x2) h c
    rw [eM]
    exact okM_rf I hc (by decide)
  · by_cases q2 : x1 ≤ 60000
    · have eL : f_LW_expiring h x1 x2 = ((0 : Int32), sL (r_TB_expiring_L30 (f_RK_empty h) x1 x2 (gI (f_RK_empty h) 0 0 3).toNatClampNeg) 0 27 0 ((f_RK_at (r_TB_expiring_L30 (f_RK_empty h) x1 x2 (gI (f_RK_empty h) 0 0 3).toNatClampNeg) x2).toInt64)) := by simp only [f_LW_expiring, if_neg q1, if_pos q2]
      rw [eL]
      show okM (0, sL (r_TB_expiring_L30 (f_RK_empty h) x1 x2 (gI (f_RK_empty h) 0 0 3).toNatClampNeg) 0 27 0 ((f_RK_at (r_TB_expiring_L30 (f_RK_empty h) x1 x2 (gI (f_RK_empty h) 0 0 3).toNatClampNeg) x2).toInt64)) (f_MO_expiring (sL (r_TB_expiring_L30 (f_RK_empty h) x1 x2 (gI (f_RK_empty h) 0 0 3).toNatClampNeg) 0 27 0 ((f_RK_at (r_TB_expiring_L30 (f_RK_empty h) x1 x2 (gI (f_RK_empty h) 0 0 3).toNatClampNeg) x2).toInt64)) x1 x2) h c
      have n3 : (gI (f_RK_empty h) 0 0 3).toNatClampNeg = cU h := by unfold f_RK_empty; rw [gI_ne (by omega)]; exact rd_c3 I
      rw [n3]
      have R := Rk_ex (h := h) (x1 := x1) (x2 := x2) (cU h) l48
      have e0 : mE (sL (r_TB_expiring_L30 (f_RK_empty h) x1 x2 (cU h)) 0 27 0 ((f_RK_at (r_TB_expiring_L30 (f_RK_empty h) x1 x2 (cU h)) x2).toInt64)) h := mE_sm (sm_tr sm_sL R.1)
      have e : mE (sI (sL (r_TB_expiring_L30 (f_RK_empty h) x1 x2 (cU h)) 0 27 0 ((f_RK_at (r_TB_expiring_L30 (f_RK_empty h) x1 x2 (cU h)) x2).toInt64)) 0 6 0 0) h := mE_tr (mE_k (by omega)) e0
      have c2 := rd_c2 I e
      have w : res_MO_expiring_O29 (sI (sL (r_TB_expiring_L30 (f_RK_empty h) x1 x2 (cU h)) 0 27 0 ((f_RK_at (r_TB_expiring_L30 (f_RK_empty h) x1 x2 (cU h)) x2).toInt64)) 0 6 0 0) x1 x2 (cU h) (cU h) = f_RK_at (r_TB_expiring_L30 (f_RK_empty h) x1 x2 (cU h)) x2 := by
        rw [rs_expiring]
        refine rs_ans R l48 (fun a ha => ?_)
        unfold res_MO_expiring_O29_c
        rw [c2, rc_ex I e ha (cU h) (Nat.le_refl _), ag_exi I e ha]
        constructor
        · rintro ⟨z1, z2⟩
          exact ⟨decide_eq_true z2, z1⟩
        · rintro ⟨z1, z2⟩
          exact ⟨z2, of_decide_eq_true z1⟩
      have eM : f_MO_expiring (sL (r_TB_expiring_L30 (f_RK_empty h) x1 x2 (cU h)) 0 27 0 ((f_RK_at (r_TB_expiring_L30 (f_RK_empty h) x1 x2 (cU h)) x2).toInt64)) x1 x2 = (f_RK_at (r_TB_expiring_L30 (f_RK_empty h) x1 x2 (cU h)) x2, (sI (sL (r_TB_expiring_L30 (f_RK_empty h) x1 x2 (cU h)) 0 27 0 ((f_RK_at (r_TB_expiring_L30 (f_RK_empty h) x1 x2 (cU h)) x2).toInt64)) 0 6 0 0)) := by
        simp only [f_MO_expiring, f_MO_expiring_16, m_MO_expiring_16, in_1 q1 q2, n10, if_false, if_true, refused_0, c2, w]
      rw [eM]
      exact okM_r I hc R.1 R.2.1
    · have eL : f_LW_expiring h x1 x2 = ((1 : Int32), nx h) := by simp only [f_LW_expiring, if_neg q1, if_neg q2]
      have e : mE (nx h) h := mE_sm sm_nx
      have eM : f_MO_expiring (nx h) x1 x2 = (0, sI (nx h) 0 6 0 1) := by simp [f_MO_expiring, m_MO_expiring_16, f_MO_expiring_16, in_hi q2, q1, q2, refused_0, refused_2, refused_3, refused_4, f_MO_refused1]
      rw [eL]
      show okM (1, nx h) (f_MO_expiring (nx h) x1 x2) h c
      rw [eM]
      exact okM_rf I hc (by decide)
