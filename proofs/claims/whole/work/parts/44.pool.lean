/-! pool (by program) -/
theorem ag_room1 {h h1 : ev_H} {c t l : Nat} (I : Inv h c t l) (e : mE h1 h) : (if 48 ≤ gI h1 0 6 2 then (0 : Int32) else 1) = if f_TB_hasRoomFor h 1 = 0 then 0 else 1 := by
  have l48 := Inv_48 I
  have e48 : (48 : Int32) = nI 48 := by decide
  have e1 : (1 : Int32) = nI 1 := by decide
  have z1 := rm_1 I 1 (by decide)
  have z0 := rm_0 I 1 (by decide)
  rw [← e1] at z1 z0
  rw [e 6 2 (by decide) (by decide) (fun _ => by decide), Inv_n2 I]
  by_cases z : f_TB_hasRoomFor h 1 = 0
  · have y := z0 z
    rw [if_pos z, if_pos]
    rw [e48, nI_leI (by omega) (by omega)]
    omega
  · have y := z1 z
    rw [if_neg z, if_neg]
    rw [e48, nI_leI (by omega) (by omega)]
    omega
theorem kl_eq {A : ev_H} {u v : Nat} (hu : u < cU A) (hv : v < cU A) (hn : cU A < 48) (e : gI A 0 0 3 = nI (cU A)) : f_TB_keepPooled A u v = (nI (cU A), kpH A 2 (gI A 1 u 1) (gI A 1 u 2) (gI A 1 u 3 ||| gI A 1 v 3) (if gI A 1 v 4 < gI A 1 u 4 then gI A 1 v 4 else gI A 1 u 4) (gI A 1 u 7 &&& gI A 1 v 7) (gI A 1 u 5 ||| gI A 1 v 5) (gI A 1 u 6 &&& gI A 1 v 6)) := by
  have cn : (nI (cU A)).toNatClampNeg = cU A := nI_clamp (by omega)
  have w : ∀ b1 b2 b3 b4 b5 i j, ¬ i = cU A → gI (f_UN_init (nw A 1) (cU A) b1 b2 b3 b4 b5) 1 i j = gI A 1 i j := fun b1 b2 b3 b4 b5 i j z => by
    unfold f_UN_init
    simp (disch := omega) only [gI_ne, gI_eq, gI_sL, gI_sR, gI_nx, gI_w1n, gI_w1e]
  have w3 : ∀ b1 b2 b3 b4 b5, gI (f_UN_init (nw A 1) (cU A) b1 b2 b3 b4 b5) 0 0 3 = nI (cU A) := fun b1 b2 b3 b4 b5 => by
    unfold f_UN_init
    simp (disch := omega) only [gI_ne, gI_eq, gI_sL, gI_sR, gI_nx, gI_w1n, gI_w1e]
    exact e
  have e38 : hp_TB_keepPooled_38 A u v = f_UN_init (nw A 1) (cU A) 2 (gI A 1 u 1) (gI A 1 u 2) (gI A 1 u 3 ||| gI A 1 v 3) (if gI A 1 v 4 < gI A 1 u 4 then gI A 1 v 4 else gI A 1 u 4) := by
    unfold hp_TB_keepPooled_38
    simp (disch := omega) only [gI_ne, gI_eq, gI_sL, gI_sR, gI_nx, gI_w1n, gI_w1e]
  have e68 : hp_TB_keepPooled_68 A u v = sI (sI (f_UN_init (nw A 1) (cU A) 2 (gI A 1 u 1) (gI A 1 u 2) (gI A 1 u 3 ||| gI A 1 v 3) (if gI A 1 v 4 < gI A 1 u 4 then gI A 1 v 4 else gI A 1 u 4)) 1 (cU A) 7 (gI A 1 u 7 &&& gI A 1 v 7)) 1 (cU A) 5 (gI A 1 u 5 ||| gI A 1 v 5) := by
    unfold hp_TB_keepPooled_68
    rw [e38]
    simp (disch := omega) only [gI_ne, w]
  unfold f_TB_keepPooled f_TB_keep
  rw [e68]
  simp (disch := omega) only [gI_ne, gI_eq, gI_sR, w, w3, cn, nI_1, nI_pred]
  rfl
theorem mn_eq {x y : Int32} : (if x < y then x else y) = if x ≤ y then x else y := by
  by_cases z : x < y
  · rw [if_pos z, if_pos (Int32.le_of_lt z)]
  · rw [if_neg z]
    by_cases w : x ≤ y
    · rw [if_pos w]
      exact (Int32.le_antisymm w (Int32.not_lt.mp z)).symm
    · rw [if_neg w]
theorem pr_pool_0 {h : ev_H} {c t l : Nat} (I : Inv h c t l) (hc : c < 512) {x1 x2 : Int32} (v0 : f_TB_isBelow x1 (gI h 0 0 3) = 0) : okM (f_LW_pool h x1 x2) (f_MO_pool_0 ((f_LW_pool h x1 x2).2) x1 x2) h c := by
  have eL : f_LW_pool h x1 x2 = (1, nx h) := by simp only [f_LW_pool, if_pos v0]
  rw [eL]
  exact okM_rf I hc (by decide)
theorem pr_pool_10 {h : ev_H} {c t l : Nat} (I : Inv h c t l) (hc : c < 512) {x1 x2 : Int32} (v0 : ¬ f_TB_isBelow x1 (gI h 0 0 3) = 0) (v1 : f_TB_isBelow x2 (gI h 0 0 3) = 0) : okM (f_LW_pool h x1 x2) (f_MO_pool_10 ((f_LW_pool h x1 x2).2) x1 x2) h c := by
  have eL : f_LW_pool h x1 x2 = (1, nx h) := by simp only [f_LW_pool, if_neg v0, if_pos v1]
  rw [eL]
  exact okM_rf I hc (by decide)
theorem pr_pool_11 {h : ev_H} {c t l : Nat} (I : Inv h c t l) (hc : c < 512) {u : Nat} (hu : u < cU h) {w : Nat} (hw : w < cU h) : okM (f_LW_pool h (nI u) (nI w)) (f_MO_pool_11 ((f_LW_pool h (nI u) (nI w)).2) (nI u) (nI w)) h c := by
  have l48 := Inv_48 I
  have l10 := Inv_10 I
  have tb := Inv_tb I
  have cu : (nI u).toNatClampNeg = u := nI_clamp (by omega)
  have vu : ¬ f_TB_isBelow (nI u) (gI h 0 0 3) = 0 := by rw [Inv_n I, isB_mk (by omega) hu]; decide
  have su := nI_pos (n := u) (by omega)
  have cw : (nI w).toNatClampNeg = w := nI_clamp (by omega)
  have vw : ¬ f_TB_isBelow (nI w) (gI h 0 0 3) = 0 := by rw [Inv_n I, isB_mk (by omega) hw]; decide
  have sw := nI_pos (n := w) (by omega)
  by_cases q1 : (nI u) = (nI w)
  · have eL : f_LW_pool h (nI u) (nI w) = ((2 : Int32), nx h) := by simp only [f_LW_pool, cu, cw, if_neg vu, if_neg vw, if_pos q1]
    have e : mE (nx h) h := mE_sm sm_nx
    have eM : f_MO_pool_11 (nx h) (nI u) (nI w) = (0, sI (nx h) 0 6 0 2) := by simp [f_MO_pool_11, f_MO_pool_11_56, f_MO_pool_11_117, f_MO_pool_11_139, f_MO_pool_11_149, f_MO_pool_11_159, m_MO_pool_11_56, m_MO_pool_11_117, m_MO_pool_11_139, m_MO_pool_11_149, m_MO_pool_11_159, cu, ag_state I e hu, ag_ready I e hu, ag_exp I e hu, ag_bar I e hu, rd_u7 I e hu, rd_u8 I e hu, rd_u9 I e hu, rd_u10 I e hu, rd_u11 I e hu, rd_u12 I e hu, rd_u13 I e hu, rd_u14 I e hu, rd_u19 I e hu, rd_u20 I e hu, cw, ag_state I e hw, ag_ready I e hw, ag_exp I e hw, ag_bar I e hw, rd_u7 I e hw, rd_u8 I e hw, rd_u9 I e hw, rd_u10 I e hw, rd_u11 I e hw, rd_u12 I e hw, rd_u13 I e hw, rd_u14 I e hw, rd_u19 I e hw, rd_u20 I e hw, ag_room1 I e, q1, refused_0, refused_2, refused_3, refused_4, f_MO_refused1]
    rw [eL]
    show okM (2, nx h) (f_MO_pool_11 (nx h) (nI u) (nI w)) h c
    rw [eM]
    exact okM_rf I hc (by decide)
  · by_cases q2 : (f_TB_isReady h u) = 0
    · have eL : f_LW_pool h (nI u) (nI w) = ((3 : Int32), nx h) := by simp only [f_LW_pool, cu, cw, if_neg vu, if_neg vw, if_neg q1, if_pos q2]
      have e : mE (nx h) h := mE_sm sm_nx
      have eM : f_MO_pool_11 (nx h) (nI u) (nI w) = (0, sI (nx h) 0 6 0 3) := by simp [f_MO_pool_11, f_MO_pool_11_56, f_MO_pool_11_117, f_MO_pool_11_139, f_MO_pool_11_149, f_MO_pool_11_159, m_MO_pool_11_56, m_MO_pool_11_117, m_MO_pool_11_139, m_MO_pool_11_149, m_MO_pool_11_159, cu, ag_state I e hu, ag_ready I e hu, ag_exp I e hu, ag_bar I e hu, rd_u7 I e hu, rd_u8 I e hu, rd_u9 I e hu, rd_u10 I e hu, rd_u11 I e hu, rd_u12 I e hu, rd_u13 I e hu, rd_u14 I e hu, rd_u19 I e hu, rd_u20 I e hu, cw, ag_state I e hw, ag_ready I e hw, ag_exp I e hw, ag_bar I e hw, rd_u7 I e hw, rd_u8 I e hw, rd_u9 I e hw, rd_u10 I e hw, rd_u11 I e hw, rd_u12 I e hw, rd_u13 I e hw, rd_u14 I e hw, rd_u19 I e hw, rd_u20 I e hw, ag_room1 I e, q1, q2, refused_0, refused_2, refused_3, refused_4, f_MO_refused1]
      rw [eL]
      show okM (3, nx h) (f_MO_pool_11 (nx h) (nI u) (nI w)) h c
      rw [eM]
      exact okM_rf I hc (by decide)
    · by_cases q3 : (f_TB_isReady h w) = 0
      · have eL : f_LW_pool h (nI u) (nI w) = ((3 : Int32), nx h) := by simp only [f_LW_pool, cu, cw, if_neg vu, if_neg vw, if_neg q1, if_neg q2, if_pos q3]
        have e : mE (nx h) h := mE_sm sm_nx
        have eM : f_MO_pool_11 (nx h) (nI u) (nI w) = (0, sI (nx h) 0 6 0 3) := by simp [f_MO_pool_11, f_MO_pool_11_56, f_MO_pool_11_117, f_MO_pool_11_139, f_MO_pool_11_149, f_MO_pool_11_159, m_MO_pool_11_56, m_MO_pool_11_117, m_MO_pool_11_139, m_MO_pool_11_149, m_MO_pool_11_159, cu, ag_state I e hu, ag_ready I e hu, ag_exp I e hu, ag_bar I e hu, rd_u7 I e hu, rd_u8 I e hu, rd_u9 I e hu, rd_u10 I e hu, rd_u11 I e hu, rd_u12 I e hu, rd_u13 I e hu, rd_u14 I e hu, rd_u19 I e hu, rd_u20 I e hu, cw, ag_state I e hw, ag_ready I e hw, ag_exp I e hw, ag_bar I e hw, rd_u7 I e hw, rd_u8 I e hw, rd_u9 I e hw, rd_u10 I e hw, rd_u11 I e hw, rd_u12 I e hw, rd_u13 I e hw, rd_u14 I e hw, rd_u19 I e hw, rd_u20 I e hw, ag_room1 I e, q1, q2, q3, refused_0, refused_2, refused_3, refused_4, f_MO_refused1]
        rw [eL]
        show okM (3, nx h) (f_MO_pool_11 (nx h) (nI u) (nI w)) h c
        rw [eM]
        exact okM_rf I hc (by decide)
      · by_cases q4 : (f_TB_hasRoomFor h 1) = 0
        · have eL : f_LW_pool h (nI u) (nI w) = ((3 : Int32), nx h) := by simp only [f_LW_pool, cu, cw, if_neg vu, if_neg vw, if_neg q1, if_neg q2, if_neg q3, if_pos q4]
          have e : mE (nx h) h := mE_sm sm_nx
          have eM : f_MO_pool_11 (nx h) (nI u) (nI w) = (0, sI (nx h) 0 6 0 3) := by simp [f_MO_pool_11, f_MO_pool_11_56, f_MO_pool_11_117, f_MO_pool_11_139, f_MO_pool_11_149, f_MO_pool_11_159, m_MO_pool_11_56, m_MO_pool_11_117, m_MO_pool_11_139, m_MO_pool_11_149, m_MO_pool_11_159, cu, ag_state I e hu, ag_ready I e hu, ag_exp I e hu, ag_bar I e hu, rd_u7 I e hu, rd_u8 I e hu, rd_u9 I e hu, rd_u10 I e hu, rd_u11 I e hu, rd_u12 I e hu, rd_u13 I e hu, rd_u14 I e hu, rd_u19 I e hu, rd_u20 I e hu, cw, ag_state I e hw, ag_ready I e hw, ag_exp I e hw, ag_bar I e hw, rd_u7 I e hw, rd_u8 I e hw, rd_u9 I e hw, rd_u10 I e hw, rd_u11 I e hw, rd_u12 I e hw, rd_u13 I e hw, rd_u14 I e hw, rd_u19 I e hw, rd_u20 I e hw, ag_room1 I e, q1, q2, q3, q4, refused_0, refused_2, refused_3, refused_4, f_MO_refused1]
          rw [eL]
          show okM (3, nx h) (f_MO_pool_11 (nx h) (nI u) (nI w)) h c
          rw [eM]
          exact okM_rf I hc (by decide)
        · by_cases q5 : (gI h 1 u 0) = 2
          · by_cases q6 : (gI h 1 w 0) = 2
            · by_cases q7 : (gI h 1 u 1) = (gI h 1 w 1)
              · by_cases q8 : (gI h 1 u 2) = (gI h 1 w 2)
                · have e1 : (1 : Int32) = nI 1 := by decide
                  have hn : cU h < 48 := by
                    have z := q4
                    rw [e1] at z
                    have := rm_1 I 1 (by decide) z
                    omega
                  have kl : f_TB_keepPooled (sI (sI h 1 u 8 5) 1 w 8 5) u w = (nI (cU h), kpH (sI (sI h 1 u 8 5) 1 w 8 5) 2 (gI h 1 u 1) (gI h 1 u 2) (gI h 1 u 3 ||| gI h 1 w 3) (if gI h 1 w 4 < gI h 1 u 4 then gI h 1 w 4 else gI h 1 u 4) (gI h 1 u 7 &&& gI h 1 w 7) (gI h 1 u 5 ||| gI h 1 w 5) (gI h 1 u 6 &&& gI h 1 w 6)) := by
                    have z := kl_eq (A := (sI (sI h 1 u 8 5) 1 w 8 5)) (u := u) (v := w) hu hw hn (by rw [gI_ne (by omega), gI_ne (by omega)]; exact Inv_n I)
                    simp (disch := omega) only [gI_ne] at z
                    exact z
                  have eL : f_LW_pool h (nI u) (nI w) = ((0 : Int32), sL (kpH (sI (sI h 1 u 8 5) 1 w 8 5) 2 (gI h 1 u 1) (gI h 1 u 2) (gI h 1 u 3 ||| gI h 1 w 3) (if gI h 1 w 4 < gI h 1 u 4 then gI h 1 w 4 else gI h 1 u 4) (gI h 1 u 7 &&& gI h 1 w 7) (gI h 1 u 5 ||| gI h 1 w 5) (gI h 1 u 6 &&& gI h 1 w 6)) 0 27 0 ((nI (cU h)).toInt64)) := by simp only [f_LW_pool, cu, cw, if_neg vu, if_neg vw, if_neg q1, if_neg q2, if_neg q3, if_neg q4, if_pos q5, if_pos q6, if_pos q7, if_pos q8, kl]
                  rw [eL]
                  show okM (0, sL (kpH (sI (sI h 1 u 8 5) 1 w 8 5) 2 (gI h 1 u 1) (gI h 1 u 2) (gI h 1 u 3 ||| gI h 1 w 3) (if gI h 1 w 4 < gI h 1 u 4 then gI h 1 w 4 else gI h 1 u 4) (gI h 1 u 7 &&& gI h 1 w 7) (gI h 1 u 5 ||| gI h 1 w 5) (gI h 1 u 6 &&& gI h 1 w 6)) 0 27 0 ((nI (cU h)).toInt64)) (f_MO_pool_11 (sL (kpH (sI (sI h 1 u 8 5) 1 w 8 5) 2 (gI h 1 u 1) (gI h 1 u 2) (gI h 1 u 3 ||| gI h 1 w 3) (if gI h 1 w 4 < gI h 1 u 4 then gI h 1 w 4 else gI h 1 u 4) (gI h 1 u 7 &&& gI h 1 w 7) (gI h 1 u 5 ||| gI h 1 w 5) (gI h 1 u 6 &&& gI h 1 w 6)) 0 27 0 ((nI (cU h)).toInt64)) (nI u) (nI w)) h c
                  have nuw : u ≠ w := fun z => q1 (by rw [z])
                  have e0 : mE (sL (kpH (sI (sI h 1 u 8 5) 1 w 8 5) 2 (gI h 1 u 1) (gI h 1 u 2) (gI h 1 u 3 ||| gI h 1 w 3) (if gI h 1 w 4 < gI h 1 u 4 then gI h 1 w 4 else gI h 1 u 4) (gI h 1 u 7 &&& gI h 1 w 7) (gI h 1 u 5 ||| gI h 1 w 5) (gI h 1 u 6 &&& gI h 1 w 6)) 0 27 0 ((nI (cU h)).toInt64)) h := fun a b x y z => by rw [gI_sL, kp_o (by omega) (by omega), gI_ne (by omega), gI_ne (by omega)]
                  have e : mE (sI (sL (kpH (sI (sI h 1 u 8 5) 1 w 8 5) 2 (gI h 1 u 1) (gI h 1 u 2) (gI h 1 u 3 ||| gI h 1 w 3) (if gI h 1 w 4 < gI h 1 u 4 then gI h 1 w 4 else gI h 1 u 4) (gI h 1 u 7 &&& gI h 1 w 7) (gI h 1 u 5 ||| gI h 1 w 5) (gI h 1 u 6 &&& gI h 1 w 6)) 0 27 0 ((nI (cU h)).toInt64)) 0 6 0 0) h := mE_tr (mE_k (by omega)) e0
                  have hr : f_MO_refused (sL (kpH (sI (sI h 1 u 8 5) 1 w 8 5) 2 (gI h 1 u 1) (gI h 1 u 2) (gI h 1 u 3 ||| gI h 1 w 3) (if gI h 1 w 4 < gI h 1 u 4 then gI h 1 w 4 else gI h 1 u 4) (gI h 1 u 7 &&& gI h 1 w 7) (gI h 1 u 5 ||| gI h 1 w 5) (gI h 1 u 6 &&& gI h 1 w 6)) 0 27 0 ((nI (cU h)).toInt64)) 0 (m_MO_pool_11_139 (nI u) (nI w)) (m_MO_pool_11_149 (sL (kpH (sI (sI h 1 u 8 5) 1 w 8 5) 2 (gI h 1 u 1) (gI h 1 u 2) (gI h 1 u 3 ||| gI h 1 w 3) (if gI h 1 w 4 < gI h 1 u 4 then gI h 1 w 4 else gI h 1 u 4) (gI h 1 u 7 &&& gI h 1 w 7) (gI h 1 u 5 ||| gI h 1 w 5) (gI h 1 u 6 &&& gI h 1 w 6)) 0 27 0 ((nI (cU h)).toInt64)) (nI u) (nI w)) (m_MO_pool_11_159 (sL (kpH (sI (sI h 1 u 8 5) 1 w 8 5) 2 (gI h 1 u 1) (gI h 1 u 2) (gI h 1 u 3 ||| gI h 1 w 3) (if gI h 1 w 4 < gI h 1 u 4 then gI h 1 w 4 else gI h 1 u 4) (gI h 1 u 7 &&& gI h 1 w 7) (gI h 1 u 5 ||| gI h 1 w 5) (gI h 1 u 6 &&& gI h 1 w 6)) 0 27 0 ((nI (cU h)).toInt64)) (nI u) (nI w)) = ((0 : Int32), sI (sL (kpH (sI (sI h 1 u 8 5) 1 w 8 5) 2 (gI h 1 u 1) (gI h 1 u 2) (gI h 1 u 3 ||| gI h 1 w 3) (if gI h 1 w 4 < gI h 1 u 4 then gI h 1 w 4 else gI h 1 u 4) (gI h 1 u 7 &&& gI h 1 w 7) (gI h 1 u 5 ||| gI h 1 w 5) (gI h 1 u 6 &&& gI h 1 w 6)) 0 27 0 ((nI (cU h)).toInt64)) 0 6 0 0) := by
                    have w1 : m_MO_pool_11_139 (nI u) (nI w) = 0 := by
                      unfold m_MO_pool_11_139
                      rw [if_neg q1]
                    have w2 : m_MO_pool_11_149 (sL (kpH (sI (sI h 1 u 8 5) 1 w 8 5) 2 (gI h 1 u 1) (gI h 1 u 2) (gI h 1 u 3 ||| gI h 1 w 3) (if gI h 1 w 4 < gI h 1 u 4 then gI h 1 w 4 else gI h 1 u 4) (gI h 1 u 7 &&& gI h 1 w 7) (gI h 1 u 5 ||| gI h 1 w 5) (gI h 1 u 6 &&& gI h 1 w 6)) 0 27 0 ((nI (cU h)).toInt64)) (nI u) (nI w) = 0 := by
                      unfold m_MO_pool_11_149 m_MO_pool_11_56
                      rw [ag_ready I e0 hu, ag_ready I e0 hw, ag_room1 I e0, if_neg q2, if_neg q3, if_neg q4, if_neg (by decide)]
                    have w3 : m_MO_pool_11_159 (sL (kpH (sI (sI h 1 u 8 5) 1 w 8 5) 2 (gI h 1 u 1) (gI h 1 u 2) (gI h 1 u 3 ||| gI h 1 w 3) (if gI h 1 w 4 < gI h 1 u 4 then gI h 1 w 4 else gI h 1 u 4) (gI h 1 u 7 &&& gI h 1 w 7) (gI h 1 u 5 ||| gI h 1 w 5) (gI h 1 u 6 &&& gI h 1 w 6)) 0 27 0 ((nI (cU h)).toInt64)) (nI u) (nI w) = 0 := by
                      unfold m_MO_pool_11_159 m_MO_pool_11_117
                      rw [cu, cw, rd_u7 I e0 hu, rd_u7 I e0 hw, rd_u8 I e0 hu, rd_u8 I e0 hw, rd_u9 I e0 hu, rd_u9 I e0 hw, if_pos q5, if_pos q6, if_pos q7, if_pos q8, if_neg (by decide)]
                    rw [w1, w2, w3]
                    exact refused_0
                  have e2 : gI (sI (sL (kpH (sI (sI h 1 u 8 5) 1 w 8 5) 2 (gI h 1 u 1) (gI h 1 u 2) (gI h 1 u 3 ||| gI h 1 w 3) (if gI h 1 w 4 < gI h 1 u 4 then gI h 1 w 4 else gI h 1 u 4) (gI h 1 u 7 &&& gI h 1 w 7) (gI h 1 u 5 ||| gI h 1 w 5) (gI h 1 u 6 &&& gI h 1 w 6)) 0 27 0 ((nI (cU h)).toInt64)) 0 6 0 0) 0 6 2 = nI (cU h) := by rw [e 6 2 (by decide) (by decide) (fun _ => by decide), Inv_n2 I]
                  have ea := ad_eq (B := sI (sL (kpH (sI (sI h 1 u 8 5) 1 w 8 5) 2 (gI h 1 u 1) (gI h 1 u 2) (gI h 1 u 3 ||| gI h 1 w 3) (if gI h 1 w 4 < gI h 1 u 4 then gI h 1 w 4 else gI h 1 u 4) (gI h 1 u 7 &&& gI h 1 w 7) (gI h 1 u 5 ||| gI h 1 w 5) (gI h 1 u 6 &&& gI h 1 w 6)) 0 27 0 ((nI (cU h)).toInt64)) 0 6 0 0) (n := cU h) (a := u) (kd := 2) (mk := 0) (lim := -1) hn (by omega) e2
                  have cn : (nI (cU h)).toNatClampNeg = cU h := nI_clamp (by omega)
                  have rr : ∀ i x, 7 ≤ i → i ≤ 20 → x < cU h → gI (adH (sI (sL (kpH (sI (sI h 1 u 8 5) 1 w 8 5) 2 (gI h 1 u 1) (gI h 1 u 2) (gI h 1 u 3 ||| gI h 1 w 3) (if gI h 1 w 4 < gI h 1 u 4 then gI h 1 w 4 else gI h 1 u 4) (gI h 1 u 7 &&& gI h 1 w 7) (gI h 1 u 5 ||| gI h 1 w 5) (gI h 1 u 6 &&& gI h 1 w 6)) 0 27 0 ((nI (cU h)).toInt64)) 0 6 0 0) (cU h) u 2 0 (adE (sI (sL (kpH (sI (sI h 1 u 8 5) 1 w 8 5) 2 (gI h 1 u 1) (gI h 1 u 2) (gI h 1 u 3 ||| gI h 1 w 3) (if gI h 1 w 4 < gI h 1 u 4 then gI h 1 w 4 else gI h 1 u 4) (gI h 1 u 7 &&& gI h 1 w 7) (gI h 1 u 5 ||| gI h 1 w 5) (gI h 1 u 6 &&& gI h 1 w 6)) 0 27 0 ((nI (cU h)).toInt64)) 0 6 0 0) u (-1))) 0 i x = gI (sI (sL (kpH (sI (sI h 1 u 8 5) 1 w 8 5) 2 (gI h 1 u 1) (gI h 1 u 2) (gI h 1 u 3 ||| gI h 1 w 3) (if gI h 1 w 4 < gI h 1 u 4 then gI h 1 w 4 else gI h 1 u 4) (gI h 1 u 7 &&& gI h 1 w 7) (gI h 1 u 5 ||| gI h 1 w 5) (gI h 1 u 6 &&& gI h 1 w 6)) 0 27 0 ((nI (cU h)).toInt64)) 0 6 0 0) 0 i x := fun i x a b z => by unfold adH; simp (disch := omega) only [gI_ne]
                  have vv : vv_MO_pool_11_177 (sL (kpH (sI (sI h 1 u 8 5) 1 w 8 5) 2 (gI h 1 u 1) (gI h 1 u 2) (gI h 1 u 3 ||| gI h 1 w 3) (if gI h 1 w 4 < gI h 1 u 4 then gI h 1 w 4 else gI h 1 u 4) (gI h 1 u 7 &&& gI h 1 w 7) (gI h 1 u 5 ||| gI h 1 w 5) (gI h 1 u 6 &&& gI h 1 w 6)) 0 27 0 ((nI (cU h)).toInt64)) (nI u) (nI w) = nI (cU h) := by
                    unfold vv_MO_pool_11_177
                    rw [hr, ea]
                  have h197 : hp_MO_pool_11_197 (sL (kpH (sI (sI h 1 u 8 5) 1 w 8 5) 2 (gI h 1 u 1) (gI h 1 u 2) (gI h 1 u 3 ||| gI h 1 w 3) (if gI h 1 w 4 < gI h 1 u 4 then gI h 1 w 4 else gI h 1 u 4) (gI h 1 u 7 &&& gI h 1 w 7) (gI h 1 u 5 ||| gI h 1 w 5) (gI h 1 u 6 &&& gI h 1 w 6)) 0 27 0 ((nI (cU h)).toInt64)) (nI u) (nI w) = sI (adH (sI (sL (kpH (sI (sI h 1 u 8 5) 1 w 8 5) 2 (gI h 1 u 1) (gI h 1 u 2) (gI h 1 u 3 ||| gI h 1 w 3) (if gI h 1 w 4 < gI h 1 u 4 then gI h 1 w 4 else gI h 1 u 4) (gI h 1 u 7 &&& gI h 1 w 7) (gI h 1 u 5 ||| gI h 1 w 5) (gI h 1 u 6 &&& gI h 1 w 6)) 0 27 0 ((nI (cU h)).toInt64)) 0 6 0 0) (cU h) u 2 0 (adE (sI (sL (kpH (sI (sI h 1 u 8 5) 1 w 8 5) 2 (gI h 1 u 1) (gI h 1 u 2) (gI h 1 u 3 ||| gI h 1 w 3) (if gI h 1 w 4 < gI h 1 u 4 then gI h 1 w 4 else gI h 1 u 4) (gI h 1 u 7 &&& gI h 1 w 7) (gI h 1 u 5 ||| gI h 1 w 5) (gI h 1 u 6 &&& gI h 1 w 6)) 0 27 0 ((nI (cU h)).toInt64)) 0 6 0 0) u (-1))) 0 10 (cU h) (gI h 1 u 5 ||| gI h 1 w 5) := by
                    unfold hp_MO_pool_11_197
                    rw [vv, hr, ea, cn, cu, cw, rr 10 u (by decide) (by decide) hu, rr 10 w (by decide) (by decide) hw, rd_u10 I e hu, rd_u10 I e hw]
                  have h217 : hp_MO_pool_11_217 (sL (kpH (sI (sI h 1 u 8 5) 1 w 8 5) 2 (gI h 1 u 1) (gI h 1 u 2) (gI h 1 u 3 ||| gI h 1 w 3) (if gI h 1 w 4 < gI h 1 u 4 then gI h 1 w 4 else gI h 1 u 4) (gI h 1 u 7 &&& gI h 1 w 7) (gI h 1 u 5 ||| gI h 1 w 5) (gI h 1 u 6 &&& gI h 1 w 6)) 0 27 0 ((nI (cU h)).toInt64)) (nI u) (nI w) = sI (sI (adH (sI (sL (kpH (sI (sI h 1 u 8 5) 1 w 8 5) 2 (gI h 1 u 1) (gI h 1 u 2) (gI h 1 u 3 ||| gI h 1 w 3) (if gI h 1 w 4 < gI h 1 u 4 then gI h 1 w 4 else gI h 1 u 4) (gI h 1 u 7 &&& gI h 1 w 7) (gI h 1 u 5 ||| gI h 1 w 5) (gI h 1 u 6 &&& gI h 1 w 6)) 0 27 0 ((nI (cU h)).toInt64)) 0 6 0 0) (cU h) u 2 0 (adE (sI (sL (kpH (sI (sI h 1 u 8 5) 1 w 8 5) 2 (gI h 1 u 1) (gI h 1 u 2) (gI h 1 u 3 ||| gI h 1 w 3) (if gI h 1 w 4 < gI h 1 u 4 then gI h 1 w 4 else gI h 1 u 4) (gI h 1 u 7 &&& gI h 1 w 7) (gI h 1 u 5 ||| gI h 1 w 5) (gI h 1 u 6 &&& gI h 1 w 6)) 0 27 0 ((nI (cU h)).toInt64)) 0 6 0 0) u (-1))) 0 10 (cU h) (gI h 1 u 5 ||| gI h 1 w 5)) 0 11 (cU h) (gI h 1 u 6 &&& gI h 1 w 6) := by
                    unfold hp_MO_pool_11_217
                    rw [vv, h197, cn, cu, cw, gI_ne (by omega), gI_ne (by omega), rr 11 u (by decide) (by decide) hu, rr 11 w (by decide) (by decide) hw, rd_u11 I e hu, rd_u11 I e hw]
                  have h237 : hp_MO_pool_11_237 (sL (kpH (sI (sI h 1 u 8 5) 1 w 8 5) 2 (gI h 1 u 1) (gI h 1 u 2) (gI h 1 u 3 ||| gI h 1 w 3) (if gI h 1 w 4 < gI h 1 u 4 then gI h 1 w 4 else gI h 1 u 4) (gI h 1 u 7 &&& gI h 1 w 7) (gI h 1 u 5 ||| gI h 1 w 5) (gI h 1 u 6 &&& gI h 1 w 6)) 0 27 0 ((nI (cU h)).toInt64)) (nI u) (nI w) = sI (sI (sI (adH (sI (sL (kpH (sI (sI h 1 u 8 5) 1 w 8 5) 2 (gI h 1 u 1) (gI h 1 u 2) (gI h 1 u 3 ||| gI h 1 w 3) (if gI h 1 w 4 < gI h 1 u 4 then gI h 1 w 4 else gI h 1 u 4) (gI h 1 u 7 &&& gI h 1 w 7) (gI h 1 u 5 ||| gI h 1 w 5) (gI h 1 u 6 &&& gI h 1 w 6)) 0 27 0 ((nI (cU h)).toInt64)) 0 6 0 0) (cU h) u 2 0 (adE (sI (sL (kpH (sI (sI h 1 u 8 5) 1 w 8 5) 2 (gI h 1 u 1) (gI h 1 u 2) (gI h 1 u 3 ||| gI h 1 w 3) (if gI h 1 w 4 < gI h 1 u 4 then gI h 1 w 4 else gI h 1 u 4) (gI h 1 u 7 &&& gI h 1 w 7) (gI h 1 u 5 ||| gI h 1 w 5) (gI h 1 u 6 &&& gI h 1 w 6)) 0 27 0 ((nI (cU h)).toInt64)) 0 6 0 0) u (-1))) 0 10 (cU h) (gI h 1 u 5 ||| gI h 1 w 5)) 0 11 (cU h) (gI h 1 u 6 &&& gI h 1 w 6)) 0 12 (cU h) (gI h 1 u 7 &&& gI h 1 w 7) := by
                    unfold hp_MO_pool_11_237
                    rw [vv, h217, cn, cu, cw, gI_ne (by omega), gI_ne (by omega), gI_ne (by omega), gI_ne (by omega), rr 12 u (by decide) (by decide) hu, rr 12 w (by decide) (by decide) hw, rd_u12 I e hu, rd_u12 I e hw]
                  have h273 : m_MO_pool_11_273 (sL (kpH (sI (sI h 1 u 8 5) 1 w 8 5) 2 (gI h 1 u 1) (gI h 1 u 2) (gI h 1 u 3 ||| gI h 1 w 3) (if gI h 1 w 4 < gI h 1 u 4 then gI h 1 w 4 else gI h 1 u 4) (gI h 1 u 7 &&& gI h 1 w 7) (gI h 1 u 5 ||| gI h 1 w 5) (gI h 1 u 6 &&& gI h 1 w 6)) 0 27 0 ((nI (cU h)).toInt64)) (nI u) (nI w) = (if gI h 1 w 4 < gI h 1 u 4 then gI h 1 w 4 else gI h 1 u 4) := by
                    unfold m_MO_pool_11_273
                    rw [h237, cu, cw]
                    have g1 : ∀ x, x < cU h → gI (sI (sI (sI (adH (sI (sL (kpH (sI (sI h 1 u 8 5) 1 w 8 5) 2 (gI h 1 u 1) (gI h 1 u 2) (gI h 1 u 3 ||| gI h 1 w 3) (if gI h 1 w 4 < gI h 1 u 4 then gI h 1 w 4 else gI h 1 u 4) (gI h 1 u 7 &&& gI h 1 w 7) (gI h 1 u 5 ||| gI h 1 w 5) (gI h 1 u 6 &&& gI h 1 w 6)) 0 27 0 ((nI (cU h)).toInt64)) 0 6 0 0) (cU h) u 2 0 (adE (sI (sL (kpH (sI (sI h 1 u 8 5) 1 w 8 5) 2 (gI h 1 u 1) (gI h 1 u 2) (gI h 1 u 3 ||| gI h 1 w 3) (if gI h 1 w 4 < gI h 1 u 4 then gI h 1 w 4 else gI h 1 u 4) (gI h 1 u 7 &&& gI h 1 w 7) (gI h 1 u 5 ||| gI h 1 w 5) (gI h 1 u 6 &&& gI h 1 w 6)) 0 27 0 ((nI (cU h)).toInt64)) 0 6 0 0) u (-1))) 0 10 (cU h) (gI h 1 u 5 ||| gI h 1 w 5)) 0 11 (cU h) (gI h 1 u 6 &&& gI h 1 w 6)) 0 12 (cU h) (gI h 1 u 7 &&& gI h 1 w 7)) 0 13 x = gI h 1 x 4 := fun x hx => by
                      rw [gI_ne (by omega), gI_ne (by omega), gI_ne (by omega), rr 13 x (by decide) (by decide) hx, rd_u13 I e hx]
                    rw [g1 u hu, g1 w hw, mn_eq]
                  have h294 : sI (sI (hp_MO_pool_11_294 (sL (kpH (sI (sI h 1 u 8 5) 1 w 8 5) 2 (gI h 1 u 1) (gI h 1 u 2) (gI h 1 u 3 ||| gI h 1 w 3) (if gI h 1 w 4 < gI h 1 u 4 then gI h 1 w 4 else gI h 1 u 4) (gI h 1 u 7 &&& gI h 1 w 7) (gI h 1 u 5 ||| gI h 1 w 5) (gI h 1 u 6 &&& gI h 1 w 6)) 0 27 0 ((nI (cU h)).toInt64)) (nI u) (nI w)) 0 15 u 5) 0 15 w 5 = sI (sI (sI (sI (sI (sI (sI (adH (sI (sL (kpH (sI (sI h 1 u 8 5) 1 w 8 5) 2 (gI h 1 u 1) (gI h 1 u 2) (gI h 1 u 3 ||| gI h 1 w 3) (if gI h 1 w 4 < gI h 1 u 4 then gI h 1 w 4 else gI h 1 u 4) (gI h 1 u 7 &&& gI h 1 w 7) (gI h 1 u 5 ||| gI h 1 w 5) (gI h 1 u 6 &&& gI h 1 w 6)) 0 27 0 ((nI (cU h)).toInt64)) 0 6 0 0) (cU h) u 2 0 (adE (sI (sL (kpH (sI (sI h 1 u 8 5) 1 w 8 5) 2 (gI h 1 u 1) (gI h 1 u 2) (gI h 1 u 3 ||| gI h 1 w 3) (if gI h 1 w 4 < gI h 1 u 4 then gI h 1 w 4 else gI h 1 u 4) (gI h 1 u 7 &&& gI h 1 w 7) (gI h 1 u 5 ||| gI h 1 w 5) (gI h 1 u 6 &&& gI h 1 w 6)) 0 27 0 ((nI (cU h)).toInt64)) 0 6 0 0) u (-1))) 0 10 (cU h) (gI h 1 u 5 ||| gI h 1 w 5)) 0 11 (cU h) (gI h 1 u 6 &&& gI h 1 w 6)) 0 12 (cU h) (gI h 1 u 7 &&& gI h 1 w 7)) 0 13 (cU h) (if gI h 1 w 4 < gI h 1 u 4 then gI h 1 w 4 else gI h 1 u 4)) 0 14 (cU h) (gI h 1 u 3 ||| gI h 1 w 3)) 0 15 u 5) 0 15 w 5 := by
                    unfold hp_MO_pool_11_294
                    rw [vv, h273, h237, cn, cu, cw]
                    have g1 : ∀ x, x < cU h → gI (sI (sI (sI (sI (adH (sI (sL (kpH (sI (sI h 1 u 8 5) 1 w 8 5) 2 (gI h 1 u 1) (gI h 1 u 2) (gI h 1 u 3 ||| gI h 1 w 3) (if gI h 1 w 4 < gI h 1 u 4 then gI h 1 w 4 else gI h 1 u 4) (gI h 1 u 7 &&& gI h 1 w 7) (gI h 1 u 5 ||| gI h 1 w 5) (gI h 1 u 6 &&& gI h 1 w 6)) 0 27 0 ((nI (cU h)).toInt64)) 0 6 0 0) (cU h) u 2 0 (adE (sI (sL (kpH (sI (sI h 1 u 8 5) 1 w 8 5) 2 (gI h 1 u 1) (gI h 1 u 2) (gI h 1 u 3 ||| gI h 1 w 3) (if gI h 1 w 4 < gI h 1 u 4 then gI h 1 w 4 else gI h 1 u 4) (gI h 1 u 7 &&& gI h 1 w 7) (gI h 1 u 5 ||| gI h 1 w 5) (gI h 1 u 6 &&& gI h 1 w 6)) 0 27 0 ((nI (cU h)).toInt64)) 0 6 0 0) u (-1))) 0 10 (cU h) (gI h 1 u 5 ||| gI h 1 w 5)) 0 11 (cU h) (gI h 1 u 6 &&& gI h 1 w 6)) 0 12 (cU h) (gI h 1 u 7 &&& gI h 1 w 7)) 0 13 (cU h) (if gI h 1 w 4 < gI h 1 u 4 then gI h 1 w 4 else gI h 1 u 4)) 0 14 x = gI h 1 x 3 := fun x hx => by
                      rw [gI_ne (by omega), gI_ne (by omega), gI_ne (by omega), gI_ne (by omega), rr 14 x (by decide) (by decide) hx, rd_u14 I e hx]
                    rw [g1 u hu, g1 w hw]
                  have eM : f_MO_pool_11 (sL (kpH (sI (sI h 1 u 8 5) 1 w 8 5) 2 (gI h 1 u 1) (gI h 1 u 2) (gI h 1 u 3 ||| gI h 1 w 3) (if gI h 1 w 4 < gI h 1 u 4 then gI h 1 w 4 else gI h 1 u 4) (gI h 1 u 7 &&& gI h 1 w 7) (gI h 1 u 5 ||| gI h 1 w 5) (gI h 1 u 6 &&& gI h 1 w 6)) 0 27 0 ((nI (cU h)).toInt64)) (nI u) (nI w) = (nI (cU h), sI (sI (sI (sI (sI (sI (sI (adH (sI (sL (kpH (sI (sI h 1 u 8 5) 1 w 8 5) 2 (gI h 1 u 1) (gI h 1 u 2) (gI h 1 u 3 ||| gI h 1 w 3) (if gI h 1 w 4 < gI h 1 u 4 then gI h 1 w 4 else gI h 1 u 4) (gI h 1 u 7 &&& gI h 1 w 7) (gI h 1 u 5 ||| gI h 1 w 5) (gI h 1 u 6 &&& gI h 1 w 6)) 0 27 0 ((nI (cU h)).toInt64)) 0 6 0 0) (cU h) u 2 0 (adE (sI (sL (kpH (sI (sI h 1 u 8 5) 1 w 8 5) 2 (gI h 1 u 1) (gI h 1 u 2) (gI h 1 u 3 ||| gI h 1 w 3) (if gI h 1 w 4 < gI h 1 u 4 then gI h 1 w 4 else gI h 1 u 4) (gI h 1 u 7 &&& gI h 1 w 7) (gI h 1 u 5 ||| gI h 1 w 5) (gI h 1 u 6 &&& gI h 1 w 6)) 0 27 0 ((nI (cU h)).toInt64)) 0 6 0 0) u (-1))) 0 10 (cU h) (gI h 1 u 5 ||| gI h 1 w 5)) 0 11 (cU h) (gI h 1 u 6 &&& gI h 1 w 6)) 0 12 (cU h) (gI h 1 u 7 &&& gI h 1 w 7)) 0 13 (cU h) (if gI h 1 w 4 < gI h 1 u 4 then gI h 1 w 4 else gI h 1 u 4)) 0 14 (cU h) (gI h 1 u 3 ||| gI h 1 w 3)) 0 15 u 5) 0 15 w 5) := by
                    unfold f_MO_pool_11 f_MO_pool_11_56 f_MO_pool_11_117 f_MO_pool_11_139 f_MO_pool_11_149 f_MO_pool_11_159 f_MO_pool_11_273
                    rw [hr]
                    simp only [if_true, vv, cu, cw]
                    rw [h294]
                  rw [eM]
                  have I1 := us_1 (mg_0 I hc e) hu (rdy_0 q2)
                  have I2 := us_1 I1 (u := w) hw (by rw [gI_ne (by omega)]; exact rdy_0 q3)
                  have hz := Inv_Z I
                  have I3 : Inv (mg (kpH (sI (sI h 1 u 8 5) 1 w 8 5) 2 (gI h 1 u 1) (gI h 1 u 2) (gI h 1 u 3 ||| gI h 1 w 3) (if gI h 1 w 4 < gI h 1 u 4 then gI h 1 w 4 else gI h 1 u 4) (gI h 1 u 7 &&& gI h 1 w 7) (gI h 1 u 5 ||| gI h 1 w 5) (gI h 1 u 6 &&& gI h 1 w 6)) (sI (sI (sI (sI (sI (sI (sI (adH (sI (sL (kpH (sI (sI h 1 u 8 5) 1 w 8 5) 2 (gI h 1 u 1) (gI h 1 u 2) (gI h 1 u 3 ||| gI h 1 w 3) (if gI h 1 w 4 < gI h 1 u 4 then gI h 1 w 4 else gI h 1 u 4) (gI h 1 u 7 &&& gI h 1 w 7) (gI h 1 u 5 ||| gI h 1 w 5) (gI h 1 u 6 &&& gI h 1 w 6)) 0 27 0 ((nI (cU h)).toInt64)) 0 6 0 0) (cU h) u 2 0 (adE (sI (sL (kpH (sI (sI h 1 u 8 5) 1 w 8 5) 2 (gI h 1 u 1) (gI h 1 u 2) (gI h 1 u 3 ||| gI h 1 w 3) (if gI h 1 w 4 < gI h 1 u 4 then gI h 1 w 4 else gI h 1 u 4) (gI h 1 u 7 &&& gI h 1 w 7) (gI h 1 u 5 ||| gI h 1 w 5) (gI h 1 u 6 &&& gI h 1 w 6)) 0 27 0 ((nI (cU h)).toInt64)) 0 6 0 0) u (-1))) 0 10 (cU h) (gI h 1 u 5 ||| gI h 1 w 5)) 0 11 (cU h) (gI h 1 u 6 &&& gI h 1 w 6)) 0 12 (cU h) (gI h 1 u 7 &&& gI h 1 w 7)) 0 13 (cU h) (if gI h 1 w 4 < gI h 1 u 4 then gI h 1 w 4 else gI h 1 u 4)) 0 14 (cU h) (gI h 1 u 3 ||| gI h 1 w 3)) 0 15 u 5) 0 15 w 5)) (c + 1) t l := by
                    have b8 : gI (sI (sL (kpH (sI (sI h 1 u 8 5) 1 w 8 5) 2 (gI h 1 u 1) (gI h 1 u 2) (gI h 1 u 3 ||| gI h 1 w 3) (if gI h 1 w 4 < gI h 1 u 4 then gI h 1 w 4 else gI h 1 u 4) (gI h 1 u 7 &&& gI h 1 w 7) (gI h 1 u 5 ||| gI h 1 w 5) (gI h 1 u 6 &&& gI h 1 w 6)) 0 27 0 ((nI (cU h)).toInt64)) 0 6 0 0) 0 8 u = gI h 1 u 1 := rd_u8 I e hu
                    have b9 : gI (sI (sL (kpH (sI (sI h 1 u 8 5) 1 w 8 5) 2 (gI h 1 u 1) (gI h 1 u 2) (gI h 1 u 3 ||| gI h 1 w 3) (if gI h 1 w 4 < gI h 1 u 4 then gI h 1 w 4 else gI h 1 u 4) (gI h 1 u 7 &&& gI h 1 w 7) (gI h 1 u 5 ||| gI h 1 w 5) (gI h 1 u 6 &&& gI h 1 w 6)) 0 27 0 ((nI (cU h)).toInt64)) 0 6 0 0) 0 9 u = gI h 1 u 2 := rd_u9 I e hu
                    have hu' : u < cU h := hu
                    have hw' : w < cU h := hw
                    refine mg_new I2 hn ?_ ?_ ?_ ?_ ?_ ?_ ?_ ?_ ?_ ?_ ?_ ?_ ?_ ?_ (by show cZ h + 1 ≤ _; omega)
                    · intro i j a b z y
                      have y' : ¬ (7 ≤ i ∧ i ≤ 20 ∧ j = cU h ∧ i ≠ 17) := y
                      unfold adH
                      by_cases p1 : i = 15 ∧ j = w
                      · rw [gI_eq (by omega), gI_eq (by omega)]
                      · by_cases p2 : i = 15 ∧ j = u
                        · rw [gI_ne (by omega), gI_eq (by omega), gI_ne (by omega), gI_eq (by omega)]
                        · simp (disch := omega) only [gI_ne]
                    · show gI (sI (sI (sI (sI (sI (sI (sI (adH (sI (sL (kpH (sI (sI h 1 u 8 5) 1 w 8 5) 2 (gI h 1 u 1) (gI h 1 u 2) (gI h 1 u 3 ||| gI h 1 w 3) (if gI h 1 w 4 < gI h 1 u 4 then gI h 1 w 4 else gI h 1 u 4) (gI h 1 u 7 &&& gI h 1 w 7) (gI h 1 u 5 ||| gI h 1 w 5) (gI h 1 u 6 &&& gI h 1 w 6)) 0 27 0 ((nI (cU h)).toInt64)) 0 6 0 0) (cU h) u 2 0 (adE (sI (sL (kpH (sI (sI h 1 u 8 5) 1 w 8 5) 2 (gI h 1 u 1) (gI h 1 u 2) (gI h 1 u 3 ||| gI h 1 w 3) (if gI h 1 w 4 < gI h 1 u 4 then gI h 1 w 4 else gI h 1 u 4) (gI h 1 u 7 &&& gI h 1 w 7) (gI h 1 u 5 ||| gI h 1 w 5) (gI h 1 u 6 &&& gI h 1 w 6)) 0 27 0 ((nI (cU h)).toInt64)) 0 6 0 0) u (-1))) 0 10 (cU h) (gI h 1 u 5 ||| gI h 1 w 5)) 0 11 (cU h) (gI h 1 u 6 &&& gI h 1 w 6)) 0 12 (cU h) (gI h 1 u 7 &&& gI h 1 w 7)) 0 13 (cU h) (if gI h 1 w 4 < gI h 1 u 4 then gI h 1 w 4 else gI h 1 u 4)) 0 14 (cU h) (gI h 1 u 3 ||| gI h 1 w 3)) 0 15 u 5) 0 15 w 5) 0 6 2 = nI (cU h + 1)
                      unfold adH
                      simp (disch := omega) only [gI_ne, gI_eq]
                    · show gI (sI (sI (sI (sI (sI (sI (sI (adH (sI (sL (kpH (sI (sI h 1 u 8 5) 1 w 8 5) 2 (gI h 1 u 1) (gI h 1 u 2) (gI h 1 u 3 ||| gI h 1 w 3) (if gI h 1 w 4 < gI h 1 u 4 then gI h 1 w 4 else gI h 1 u 4) (gI h 1 u 7 &&& gI h 1 w 7) (gI h 1 u 5 ||| gI h 1 w 5) (gI h 1 u 6 &&& gI h 1 w 6)) 0 27 0 ((nI (cU h)).toInt64)) 0 6 0 0) (cU h) u 2 0 (adE (sI (sL (kpH (sI (sI h 1 u 8 5) 1 w 8 5) 2 (gI h 1 u 1) (gI h 1 u 2) (gI h 1 u 3 ||| gI h 1 w 3) (if gI h 1 w 4 < gI h 1 u 4 then gI h 1 w 4 else gI h 1 u 4) (gI h 1 u 7 &&& gI h 1 w 7) (gI h 1 u 5 ||| gI h 1 w 5) (gI h 1 u 6 &&& gI h 1 w 6)) 0 27 0 ((nI (cU h)).toInt64)) 0 6 0 0) u (-1))) 0 10 (cU h) (gI h 1 u 5 ||| gI h 1 w 5)) 0 11 (cU h) (gI h 1 u 6 &&& gI h 1 w 6)) 0 12 (cU h) (gI h 1 u 7 &&& gI h 1 w 7)) 0 13 (cU h) (if gI h 1 w 4 < gI h 1 u 4 then gI h 1 w 4 else gI h 1 u 4)) 0 14 (cU h) (gI h 1 u 3 ||| gI h 1 w 3)) 0 15 u 5) 0 15 w 5) 0 7 (cU h) = _
                      unfold adH
                      simp (disch := omega) only [gI_ne, gI_eq, b8, b9]
                    · show gI (sI (sI (sI (sI (sI (sI (sI (adH (sI (sL (kpH (sI (sI h 1 u 8 5) 1 w 8 5) 2 (gI h 1 u 1) (gI h 1 u 2) (gI h 1 u 3 ||| gI h 1 w 3) (if gI h 1 w 4 < gI h 1 u 4 then gI h 1 w 4 else gI h 1 u 4) (gI h 1 u 7 &&& gI h 1 w 7) (gI h 1 u 5 ||| gI h 1 w 5) (gI h 1 u 6 &&& gI h 1 w 6)) 0 27 0 ((nI (cU h)).toInt64)) 0 6 0 0) (cU h) u 2 0 (adE (sI (sL (kpH (sI (sI h 1 u 8 5) 1 w 8 5) 2 (gI h 1 u 1) (gI h 1 u 2) (gI h 1 u 3 ||| gI h 1 w 3) (if gI h 1 w 4 < gI h 1 u 4 then gI h 1 w 4 else gI h 1 u 4) (gI h 1 u 7 &&& gI h 1 w 7) (gI h 1 u 5 ||| gI h 1 w 5) (gI h 1 u 6 &&& gI h 1 w 6)) 0 27 0 ((nI (cU h)).toInt64)) 0 6 0 0) u (-1))) 0 10 (cU h) (gI h 1 u 5 ||| gI h 1 w 5)) 0 11 (cU h) (gI h 1 u 6 &&& gI h 1 w 6)) 0 12 (cU h) (gI h 1 u 7 &&& gI h 1 w 7)) 0 13 (cU h) (if gI h 1 w 4 < gI h 1 u 4 then gI h 1 w 4 else gI h 1 u 4)) 0 14 (cU h) (gI h 1 u 3 ||| gI h 1 w 3)) 0 15 u 5) 0 15 w 5) 0 8 (cU h) = _
                      unfold adH
                      simp (disch := omega) only [gI_ne, gI_eq, b8, b9]
                    · show gI (sI (sI (sI (sI (sI (sI (sI (adH (sI (sL (kpH (sI (sI h 1 u 8 5) 1 w 8 5) 2 (gI h 1 u 1) (gI h 1 u 2) (gI h 1 u 3 ||| gI h 1 w 3) (if gI h 1 w 4 < gI h 1 u 4 then gI h 1 w 4 else gI h 1 u 4) (gI h 1 u 7 &&& gI h 1 w 7) (gI h 1 u 5 ||| gI h 1 w 5) (gI h 1 u 6 &&& gI h 1 w 6)) 0 27 0 ((nI (cU h)).toInt64)) 0 6 0 0) (cU h) u 2 0 (adE (sI (sL (kpH (sI (sI h 1 u 8 5) 1 w 8 5) 2 (gI h 1 u 1) (gI h 1 u 2) (gI h 1 u 3 ||| gI h 1 w 3) (if gI h 1 w 4 < gI h 1 u 4 then gI h 1 w 4 else gI h 1 u 4) (gI h 1 u 7 &&& gI h 1 w 7) (gI h 1 u 5 ||| gI h 1 w 5) (gI h 1 u 6 &&& gI h 1 w 6)) 0 27 0 ((nI (cU h)).toInt64)) 0 6 0 0) u (-1))) 0 10 (cU h) (gI h 1 u 5 ||| gI h 1 w 5)) 0 11 (cU h) (gI h 1 u 6 &&& gI h 1 w 6)) 0 12 (cU h) (gI h 1 u 7 &&& gI h 1 w 7)) 0 13 (cU h) (if gI h 1 w 4 < gI h 1 u 4 then gI h 1 w 4 else gI h 1 u 4)) 0 14 (cU h) (gI h 1 u 3 ||| gI h 1 w 3)) 0 15 u 5) 0 15 w 5) 0 9 (cU h) = _
                      unfold adH
                      simp (disch := omega) only [gI_ne, gI_eq, b8, b9]
                    · show gI (sI (sI (sI (sI (sI (sI (sI (adH (sI (sL (kpH (sI (sI h 1 u 8 5) 1 w 8 5) 2 (gI h 1 u 1) (gI h 1 u 2) (gI h 1 u 3 ||| gI h 1 w 3) (if gI h 1 w 4 < gI h 1 u 4 then gI h 1 w 4 else gI h 1 u 4) (gI h 1 u 7 &&& gI h 1 w 7) (gI h 1 u 5 ||| gI h 1 w 5) (gI h 1 u 6 &&& gI h 1 w 6)) 0 27 0 ((nI (cU h)).toInt64)) 0 6 0 0) (cU h) u 2 0 (adE (sI (sL (kpH (sI (sI h 1 u 8 5) 1 w 8 5) 2 (gI h 1 u 1) (gI h 1 u 2) (gI h 1 u 3 ||| gI h 1 w 3) (if gI h 1 w 4 < gI h 1 u 4 then gI h 1 w 4 else gI h 1 u 4) (gI h 1 u 7 &&& gI h 1 w 7) (gI h 1 u 5 ||| gI h 1 w 5) (gI h 1 u 6 &&& gI h 1 w 6)) 0 27 0 ((nI (cU h)).toInt64)) 0 6 0 0) u (-1))) 0 10 (cU h) (gI h 1 u 5 ||| gI h 1 w 5)) 0 11 (cU h) (gI h 1 u 6 &&& gI h 1 w 6)) 0 12 (cU h) (gI h 1 u 7 &&& gI h 1 w 7)) 0 13 (cU h) (if gI h 1 w 4 < gI h 1 u 4 then gI h 1 w 4 else gI h 1 u 4)) 0 14 (cU h) (gI h 1 u 3 ||| gI h 1 w 3)) 0 15 u 5) 0 15 w 5) 0 14 (cU h) = _
                      unfold adH
                      simp (disch := omega) only [gI_ne, gI_eq, b8, b9]
                    · show gI (sI (sI (sI (sI (sI (sI (sI (adH (sI (sL (kpH (sI (sI h 1 u 8 5) 1 w 8 5) 2 (gI h 1 u 1) (gI h 1 u 2) (gI h 1 u 3 ||| gI h 1 w 3) (if gI h 1 w 4 < gI h 1 u 4 then gI h 1 w 4 else gI h 1 u 4) (gI h 1 u 7 &&& gI h 1 w 7) (gI h 1 u 5 ||| gI h 1 w 5) (gI h 1 u 6 &&& gI h 1 w 6)) 0 27 0 ((nI (cU h)).toInt64)) 0 6 0 0) (cU h) u 2 0 (adE (sI (sL (kpH (sI (sI h 1 u 8 5) 1 w 8 5) 2 (gI h 1 u 1) (gI h 1 u 2) (gI h 1 u 3 ||| gI h 1 w 3) (if gI h 1 w 4 < gI h 1 u 4 then gI h 1 w 4 else gI h 1 u 4) (gI h 1 u 7 &&& gI h 1 w 7) (gI h 1 u 5 ||| gI h 1 w 5) (gI h 1 u 6 &&& gI h 1 w 6)) 0 27 0 ((nI (cU h)).toInt64)) 0 6 0 0) u (-1))) 0 10 (cU h) (gI h 1 u 5 ||| gI h 1 w 5)) 0 11 (cU h) (gI h 1 u 6 &&& gI h 1 w 6)) 0 12 (cU h) (gI h 1 u 7 &&& gI h 1 w 7)) 0 13 (cU h) (if gI h 1 w 4 < gI h 1 u 4 then gI h 1 w 4 else gI h 1 u 4)) 0 14 (cU h) (gI h 1 u 3 ||| gI h 1 w 3)) 0 15 u 5) 0 15 w 5) 0 13 (cU h) = _
                      unfold adH
                      simp (disch := omega) only [gI_ne, gI_eq, b8, b9]
                    · show gI (sI (sI (sI (sI (sI (sI (sI (adH (sI (sL (kpH (sI (sI h 1 u 8 5) 1 w 8 5) 2 (gI h 1 u 1) (gI h 1 u 2) (gI h 1 u 3 ||| gI h 1 w 3) (if gI h 1 w 4 < gI h 1 u 4 then gI h 1 w 4 else gI h 1 u 4) (gI h 1 u 7 &&& gI h 1 w 7) (gI h 1 u 5 ||| gI h 1 w 5) (gI h 1 u 6 &&& gI h 1 w 6)) 0 27 0 ((nI (cU h)).toInt64)) 0 6 0 0) (cU h) u 2 0 (adE (sI (sL (kpH (sI (sI h 1 u 8 5) 1 w 8 5) 2 (gI h 1 u 1) (gI h 1 u 2) (gI h 1 u 3 ||| gI h 1 w 3) (if gI h 1 w 4 < gI h 1 u 4 then gI h 1 w 4 else gI h 1 u 4) (gI h 1 u 7 &&& gI h 1 w 7) (gI h 1 u 5 ||| gI h 1 w 5) (gI h 1 u 6 &&& gI h 1 w 6)) 0 27 0 ((nI (cU h)).toInt64)) 0 6 0 0) u (-1))) 0 10 (cU h) (gI h 1 u 5 ||| gI h 1 w 5)) 0 11 (cU h) (gI h 1 u 6 &&& gI h 1 w 6)) 0 12 (cU h) (gI h 1 u 7 &&& gI h 1 w 7)) 0 13 (cU h) (if gI h 1 w 4 < gI h 1 u 4 then gI h 1 w 4 else gI h 1 u 4)) 0 14 (cU h) (gI h 1 u 3 ||| gI h 1 w 3)) 0 15 u 5) 0 15 w 5) 0 12 (cU h) = _
                      unfold adH
                      simp (disch := omega) only [gI_ne, gI_eq, b8, b9]
                    · show gI (sI (sI (sI (sI (sI (sI (sI (adH (sI (sL (kpH (sI (sI h 1 u 8 5) 1 w 8 5) 2 (gI h 1 u 1) (gI h 1 u 2) (gI h 1 u 3 ||| gI h 1 w 3) (if gI h 1 w 4 < gI h 1 u 4 then gI h 1 w 4 else gI h 1 u 4) (gI h 1 u 7 &&& gI h 1 w 7) (gI h 1 u 5 ||| gI h 1 w 5) (gI h 1 u 6 &&& gI h 1 w 6)) 0 27 0 ((nI (cU h)).toInt64)) 0 6 0 0) (cU h) u 2 0 (adE (sI (sL (kpH (sI (sI h 1 u 8 5) 1 w 8 5) 2 (gI h 1 u 1) (gI h 1 u 2) (gI h 1 u 3 ||| gI h 1 w 3) (if gI h 1 w 4 < gI h 1 u 4 then gI h 1 w 4 else gI h 1 u 4) (gI h 1 u 7 &&& gI h 1 w 7) (gI h 1 u 5 ||| gI h 1 w 5) (gI h 1 u 6 &&& gI h 1 w 6)) 0 27 0 ((nI (cU h)).toInt64)) 0 6 0 0) u (-1))) 0 10 (cU h) (gI h 1 u 5 ||| gI h 1 w 5)) 0 11 (cU h) (gI h 1 u 6 &&& gI h 1 w 6)) 0 12 (cU h) (gI h 1 u 7 &&& gI h 1 w 7)) 0 13 (cU h) (if gI h 1 w 4 < gI h 1 u 4 then gI h 1 w 4 else gI h 1 u 4)) 0 14 (cU h) (gI h 1 u 3 ||| gI h 1 w 3)) 0 15 u 5) 0 15 w 5) 0 10 (cU h) = _
                      unfold adH
                      simp (disch := omega) only [gI_ne, gI_eq, b8, b9]
                    · show gI (sI (sI (sI (sI (sI (sI (sI (adH (sI (sL (kpH (sI (sI h 1 u 8 5) 1 w 8 5) 2 (gI h 1 u 1) (gI h 1 u 2) (gI h 1 u 3 ||| gI h 1 w 3) (if gI h 1 w 4 < gI h 1 u 4 then gI h 1 w 4 else gI h 1 u 4) (gI h 1 u 7 &&& gI h 1 w 7) (gI h 1 u 5 ||| gI h 1 w 5) (gI h 1 u 6 &&& gI h 1 w 6)) 0 27 0 ((nI (cU h)).toInt64)) 0 6 0 0) (cU h) u 2 0 (adE (sI (sL (kpH (sI (sI h 1 u 8 5) 1 w 8 5) 2 (gI h 1 u 1) (gI h 1 u 2) (gI h 1 u 3 ||| gI h 1 w 3) (if gI h 1 w 4 < gI h 1 u 4 then gI h 1 w 4 else gI h 1 u 4) (gI h 1 u 7 &&& gI h 1 w 7) (gI h 1 u 5 ||| gI h 1 w 5) (gI h 1 u 6 &&& gI h 1 w 6)) 0 27 0 ((nI (cU h)).toInt64)) 0 6 0 0) u (-1))) 0 10 (cU h) (gI h 1 u 5 ||| gI h 1 w 5)) 0 11 (cU h) (gI h 1 u 6 &&& gI h 1 w 6)) 0 12 (cU h) (gI h 1 u 7 &&& gI h 1 w 7)) 0 13 (cU h) (if gI h 1 w 4 < gI h 1 u 4 then gI h 1 w 4 else gI h 1 u 4)) 0 14 (cU h) (gI h 1 u 3 ||| gI h 1 w 3)) 0 15 u 5) 0 15 w 5) 0 11 (cU h) = _
                      unfold adH
                      simp (disch := omega) only [gI_ne, gI_eq, b8, b9]
                    · show gI (sI (sI (sI (sI (sI (sI (sI (adH (sI (sL (kpH (sI (sI h 1 u 8 5) 1 w 8 5) 2 (gI h 1 u 1) (gI h 1 u 2) (gI h 1 u 3 ||| gI h 1 w 3) (if gI h 1 w 4 < gI h 1 u 4 then gI h 1 w 4 else gI h 1 u 4) (gI h 1 u 7 &&& gI h 1 w 7) (gI h 1 u 5 ||| gI h 1 w 5) (gI h 1 u 6 &&& gI h 1 w 6)) 0 27 0 ((nI (cU h)).toInt64)) 0 6 0 0) (cU h) u 2 0 (adE (sI (sL (kpH (sI (sI h 1 u 8 5) 1 w 8 5) 2 (gI h 1 u 1) (gI h 1 u 2) (gI h 1 u 3 ||| gI h 1 w 3) (if gI h 1 w 4 < gI h 1 u 4 then gI h 1 w 4 else gI h 1 u 4) (gI h 1 u 7 &&& gI h 1 w 7) (gI h 1 u 5 ||| gI h 1 w 5) (gI h 1 u 6 &&& gI h 1 w 6)) 0 27 0 ((nI (cU h)).toInt64)) 0 6 0 0) u (-1))) 0 10 (cU h) (gI h 1 u 5 ||| gI h 1 w 5)) 0 11 (cU h) (gI h 1 u 6 &&& gI h 1 w 6)) 0 12 (cU h) (gI h 1 u 7 &&& gI h 1 w 7)) 0 13 (cU h) (if gI h 1 w 4 < gI h 1 u 4 then gI h 1 w 4 else gI h 1 u 4)) 0 14 (cU h) (gI h 1 u 3 ||| gI h 1 w 3)) 0 15 u 5) 0 15 w 5) 0 15 (cU h) = _
                      unfold adH
                      simp (disch := omega) only [gI_ne, gI_eq, b8, b9]
                    · show gI (sI (sI (sI (sI (sI (sI (sI (adH (sI (sL (kpH (sI (sI h 1 u 8 5) 1 w 8 5) 2 (gI h 1 u 1) (gI h 1 u 2) (gI h 1 u 3 ||| gI h 1 w 3) (if gI h 1 w 4 < gI h 1 u 4 then gI h 1 w 4 else gI h 1 u 4) (gI h 1 u 7 &&& gI h 1 w 7) (gI h 1 u 5 ||| gI h 1 w 5) (gI h 1 u 6 &&& gI h 1 w 6)) 0 27 0 ((nI (cU h)).toInt64)) 0 6 0 0) (cU h) u 2 0 (adE (sI (sL (kpH (sI (sI h 1 u 8 5) 1 w 8 5) 2 (gI h 1 u 1) (gI h 1 u 2) (gI h 1 u 3 ||| gI h 1 w 3) (if gI h 1 w 4 < gI h 1 u 4 then gI h 1 w 4 else gI h 1 u 4) (gI h 1 u 7 &&& gI h 1 w 7) (gI h 1 u 5 ||| gI h 1 w 5) (gI h 1 u 6 &&& gI h 1 w 6)) 0 27 0 ((nI (cU h)).toInt64)) 0 6 0 0) u (-1))) 0 10 (cU h) (gI h 1 u 5 ||| gI h 1 w 5)) 0 11 (cU h) (gI h 1 u 6 &&& gI h 1 w 6)) 0 12 (cU h) (gI h 1 u 7 &&& gI h 1 w 7)) 0 13 (cU h) (if gI h 1 w 4 < gI h 1 u 4 then gI h 1 w 4 else gI h 1 u 4)) 0 14 (cU h) (gI h 1 u 3 ||| gI h 1 w 3)) 0 15 u 5) 0 15 w 5) 0 18 (cU h) = _
                      unfold adH
                      simp (disch := omega) only [gI_ne, gI_eq, b8, b9]
                    · show gI (sI (sI (sI (sI (sI (sI (sI (adH (sI (sL (kpH (sI (sI h 1 u 8 5) 1 w 8 5) 2 (gI h 1 u 1) (gI h 1 u 2) (gI h 1 u 3 ||| gI h 1 w 3) (if gI h 1 w 4 < gI h 1 u 4 then gI h 1 w 4 else gI h 1 u 4) (gI h 1 u 7 &&& gI h 1 w 7) (gI h 1 u 5 ||| gI h 1 w 5) (gI h 1 u 6 &&& gI h 1 w 6)) 0 27 0 ((nI (cU h)).toInt64)) 0 6 0 0) (cU h) u 2 0 (adE (sI (sL (kpH (sI (sI h 1 u 8 5) 1 w 8 5) 2 (gI h 1 u 1) (gI h 1 u 2) (gI h 1 u 3 ||| gI h 1 w 3) (if gI h 1 w 4 < gI h 1 u 4 then gI h 1 w 4 else gI h 1 u 4) (gI h 1 u 7 &&& gI h 1 w 7) (gI h 1 u 5 ||| gI h 1 w 5) (gI h 1 u 6 &&& gI h 1 w 6)) 0 27 0 ((nI (cU h)).toInt64)) 0 6 0 0) u (-1))) 0 10 (cU h) (gI h 1 u 5 ||| gI h 1 w 5)) 0 11 (cU h) (gI h 1 u 6 &&& gI h 1 w 6)) 0 12 (cU h) (gI h 1 u 7 &&& gI h 1 w 7)) 0 13 (cU h) (if gI h 1 w 4 < gI h 1 u 4 then gI h 1 w 4 else gI h 1 u 4)) 0 14 (cU h) (gI h 1 u 3 ||| gI h 1 w 3)) 0 15 u 5) 0 15 w 5) 0 19 (cU h) = _
                      unfold adH
                      simp (disch := omega) only [gI_ne, gI_eq, b8, b9]
                    · show gI (sI (sI (sI (sI (sI (sI (sI (adH (sI (sL (kpH (sI (sI h 1 u 8 5) 1 w 8 5) 2 (gI h 1 u 1) (gI h 1 u 2) (gI h 1 u 3 ||| gI h 1 w 3) (if gI h 1 w 4 < gI h 1 u 4 then gI h 1 w 4 else gI h 1 u 4) (gI h 1 u 7 &&& gI h 1 w 7) (gI h 1 u 5 ||| gI h 1 w 5) (gI h 1 u 6 &&& gI h 1 w 6)) 0 27 0 ((nI (cU h)).toInt64)) 0 6 0 0) (cU h) u 2 0 (adE (sI (sL (kpH (sI (sI h 1 u 8 5) 1 w 8 5) 2 (gI h 1 u 1) (gI h 1 u 2) (gI h 1 u 3 ||| gI h 1 w 3) (if gI h 1 w 4 < gI h 1 u 4 then gI h 1 w 4 else gI h 1 u 4) (gI h 1 u 7 &&& gI h 1 w 7) (gI h 1 u 5 ||| gI h 1 w 5) (gI h 1 u 6 &&& gI h 1 w 6)) 0 27 0 ((nI (cU h)).toInt64)) 0 6 0 0) u (-1))) 0 10 (cU h) (gI h 1 u 5 ||| gI h 1 w 5)) 0 11 (cU h) (gI h 1 u 6 &&& gI h 1 w 6)) 0 12 (cU h) (gI h 1 u 7 &&& gI h 1 w 7)) 0 13 (cU h) (if gI h 1 w 4 < gI h 1 u 4 then gI h 1 w 4 else gI h 1 u 4)) 0 14 (cU h) (gI h 1 u 3 ||| gI h 1 w 3)) 0 15 u 5) 0 15 w 5) 0 20 (cU h) = _
                      unfold adH
                      simp (disch := omega) only [gI_ne, gI_eq, b8, b9]
                  refine pr_end (n := 0) e0 (mg_L I3) (fun k i j z => by unfold adH; simp (disch := omega) only [gI_ne]) rfl (by unfold adH; simp (disch := omega) only [gI_ne, gI_eq]) (by rw [gL_sL])
                · have eL : f_LW_pool h (nI u) (nI w) = ((4 : Int32), nx h) := by simp only [f_LW_pool, cu, cw, if_neg vu, if_neg vw, if_neg q1, if_neg q2, if_neg q3, if_neg q4, if_pos q5, if_pos q6, if_pos q7, if_neg q8]
                  have e : mE (nx h) h := mE_sm sm_nx
                  have eM : f_MO_pool_11 (nx h) (nI u) (nI w) = (0, sI (nx h) 0 6 0 4) := by simp [f_MO_pool_11, f_MO_pool_11_56, f_MO_pool_11_117, f_MO_pool_11_139, f_MO_pool_11_149, f_MO_pool_11_159, m_MO_pool_11_56, m_MO_pool_11_117, m_MO_pool_11_139, m_MO_pool_11_149, m_MO_pool_11_159, cu, ag_state I e hu, ag_ready I e hu, ag_exp I e hu, ag_bar I e hu, rd_u7 I e hu, rd_u8 I e hu, rd_u9 I e hu, rd_u10 I e hu, rd_u11 I e hu, rd_u12 I e hu, rd_u13 I e hu, rd_u14 I e hu, rd_u19 I e hu, rd_u20 I e hu, cw, ag_state I e hw, ag_ready I e hw, ag_exp I e hw, ag_bar I e hw, rd_u7 I e hw, rd_u8 I e hw, rd_u9 I e hw, rd_u10 I e hw, rd_u11 I e hw, rd_u12 I e hw, rd_u13 I e hw, rd_u14 I e hw, rd_u19 I e hw, rd_u20 I e hw, ag_room1 I e, q1, q2, q3, q4, q5, q6, q7, q8, refused_0, refused_2, refused_3, refused_4, f_MO_refused1]
                  rw [eL]
                  show okM (4, nx h) (f_MO_pool_11 (nx h) (nI u) (nI w)) h c
                  rw [eM]
                  exact okM_rf I hc (by decide)
              · have eL : f_LW_pool h (nI u) (nI w) = ((4 : Int32), nx h) := by simp only [f_LW_pool, cu, cw, if_neg vu, if_neg vw, if_neg q1, if_neg q2, if_neg q3, if_neg q4, if_pos q5, if_pos q6, if_neg q7]
                have e : mE (nx h) h := mE_sm sm_nx
                have eM : f_MO_pool_11 (nx h) (nI u) (nI w) = (0, sI (nx h) 0 6 0 4) := by simp [f_MO_pool_11, f_MO_pool_11_56, f_MO_pool_11_117, f_MO_pool_11_139, f_MO_pool_11_149, f_MO_pool_11_159, m_MO_pool_11_56, m_MO_pool_11_117, m_MO_pool_11_139, m_MO_pool_11_149, m_MO_pool_11_159, cu, ag_state I e hu, ag_ready I e hu, ag_exp I e hu, ag_bar I e hu, rd_u7 I e hu, rd_u8 I e hu, rd_u9 I e hu, rd_u10 I e hu, rd_u11 I e hu, rd_u12 I e hu, rd_u13 I e hu, rd_u14 I e hu, rd_u19 I e hu, rd_u20 I e hu, cw, ag_state I e hw, ag_ready I e hw, ag_exp I e hw, ag_bar I e hw, rd_u7 I e hw, rd_u8 I e hw, rd_u9 I e hw, rd_u10 I e hw, rd_u11 I e hw, rd_u12 I e hw, rd_u13 I e hw, rd_u14 I e hw, rd_u19 I e hw, rd_u20 I e hw, ag_room1 I e, q1, q2, q3, q4, q5, q6, q7, refused_0, refused_2, refused_3, refused_4, f_MO_refused1]
                rw [eL]
                show okM (4, nx h) (f_MO_pool_11 (nx h) (nI u) (nI w)) h c
                rw [eM]
                exact okM_rf I hc (by decide)
            · have eL : f_LW_pool h (nI u) (nI w) = ((4 : Int32), nx h) := by simp only [f_LW_pool, cu, cw, if_neg vu, if_neg vw, if_neg q1, if_neg q2, if_neg q3, if_neg q4, if_pos q5, if_neg q6]
              have e : mE (nx h) h := mE_sm sm_nx
              have eM : f_MO_pool_11 (nx h) (nI u) (nI w) = (0, sI (nx h) 0 6 0 4) := by simp [f_MO_pool_11, f_MO_pool_11_56, f_MO_pool_11_117, f_MO_pool_11_139, f_MO_pool_11_149, f_MO_pool_11_159, m_MO_pool_11_56, m_MO_pool_11_117, m_MO_pool_11_139, m_MO_pool_11_149, m_MO_pool_11_159, cu, ag_state I e hu, ag_ready I e hu, ag_exp I e hu, ag_bar I e hu, rd_u7 I e hu, rd_u8 I e hu, rd_u9 I e hu, rd_u10 I e hu, rd_u11 I e hu, rd_u12 I e hu, rd_u13 I e hu, rd_u14 I e hu, rd_u19 I e hu, rd_u20 I e hu, cw, ag_state I e hw, ag_ready I e hw, ag_exp I e hw, ag_bar I e hw, rd_u7 I e hw, rd_u8 I e hw, rd_u9 I e hw, rd_u10 I e hw, rd_u11 I e hw, rd_u12 I e hw, rd_u13 I e hw, rd_u14 I e hw, rd_u19 I e hw, rd_u20 I e hw, ag_room1 I e, q1, q2, q3, q4, q5, q6, refused_0, refused_2, refused_3, refused_4, f_MO_refused1]
              rw [eL]
              show okM (4, nx h) (f_MO_pool_11 (nx h) (nI u) (nI w)) h c
              rw [eM]
              exact okM_rf I hc (by decide)
          · have eL : f_LW_pool h (nI u) (nI w) = ((4 : Int32), nx h) := by simp only [f_LW_pool, cu, cw, if_neg vu, if_neg vw, if_neg q1, if_neg q2, if_neg q3, if_neg q4, if_neg q5]
            have e : mE (nx h) h := mE_sm sm_nx
            have eM : f_MO_pool_11 (nx h) (nI u) (nI w) = (0, sI (nx h) 0 6 0 4) := by simp [f_MO_pool_11, f_MO_pool_11_56, f_MO_pool_11_117, f_MO_pool_11_139, f_MO_pool_11_149, f_MO_pool_11_159, m_MO_pool_11_56, m_MO_pool_11_117, m_MO_pool_11_139, m_MO_pool_11_149, m_MO_pool_11_159, cu, ag_state I e hu, ag_ready I e hu, ag_exp I e hu, ag_bar I e hu, rd_u7 I e hu, rd_u8 I e hu, rd_u9 I e hu, rd_u10 I e hu, rd_u11 I e hu, rd_u12 I e hu, rd_u13 I e hu, rd_u14 I e hu, rd_u19 I e hu, rd_u20 I e hu, cw, ag_state I e hw, ag_ready I e hw, ag_exp I e hw, ag_bar I e hw, rd_u7 I e hw, rd_u8 I e hw, rd_u9 I e hw, rd_u10 I e hw, rd_u11 I e hw, rd_u12 I e hw, rd_u13 I e hw, rd_u14 I e hw, rd_u19 I e hw, rd_u20 I e hw, ag_room1 I e, q1, q2, q3, q4, q5, refused_0, refused_2, refused_3, refused_4, f_MO_refused1]
            rw [eL]
            show okM (4, nx h) (f_MO_pool_11 (nx h) (nI u) (nI w)) h c
            rw [eM]
            exact okM_rf I hc (by decide)
