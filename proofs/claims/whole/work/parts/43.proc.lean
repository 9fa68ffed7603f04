/-! process (by program) -/
/-- what process, pool have in common at their end -/
theorem pr_end {h H M : ev_H} {c t l n : Nat} {v : Int32} (e0 : mE H h) (I3 : Inv (mg H M) (c + 1) t l) (mc : ∀ k i j, ¬ (k = 0 ∧ 6 ≤ i ∧ i ≤ 26) → gI M k i j = gI H k i j) (m2 : M.2 = H.2) (th : gI M 0 6 0 = 0) (hv : gL H 0 27 0 = v.toInt64) : okM (0, H) (v, M) h c := by
  have f := mg_fin mc m2
  rw [f] at I3
  refine ⟨⟨e0, rfs_R (h := M) (fun k i j => by unfold gR; rw [m2]) (Inv_R I3)⟩, th, fun _ => ?_, t, l, I3⟩
  have g : gL M 0 27 0 = gL H 0 27 0 := by unfold gL; rw [m2]
  show lg_cmp (gL M 0 27 0) v.toInt64 = 0
  rw [g, hv]
  exact lg_self _
theorem tab_1 {x : Int32} (q : ¬ f_TB_isBelow x 4 = 0) (z : ¬ x = 0) : tab 1 x.toNatClampNeg = (if x = 1 then 1 else (if x = 2 then 2 else 4)) ∧ tab 2 x.toNatClampNeg = (if x = 2 then 20160 else 1440) := by
  obtain ⟨a, ha, rfl⟩ := isB_ex (n := 4) (by decide) q
  have : a = 0 ∨ a = 1 ∨ a = 2 ∨ a = 3 := by omega
  rcases this with rfl | rfl | rfl | rfl
  · exact absurd (by decide) z
  · decide +kernel
  · decide +kernel
  · decide +kernel
theorem m42 {x1 x2 : Int32} : m_TB_process_42 x1 x2 = nI (if x2 = 0 then 3 else 1) ∧ m_MO_process_1_15 x1 x2 = nI (if x2 = 0 then 3 else 1) := by
  unfold m_TB_process_42 m_MO_process_1_15
  by_cases z : x2 = 0
  · simp only [z, if_true]
    decide
  · simp only [z, if_false]
    decide
theorem ag_room {h h1 : ev_H} {c t l : Nat} (I : Inv h c t l) (e : mE h1 h) (k : Nat) (hk : k ≤ 3) : (if gI h1 0 6 2 + nI k ≤ 48 then (0 : Int32) else 1) = if f_TB_hasRoomFor h (nI k) = 0 then 1 else 0 := by
  have l48 := Inv_48 I
  have e48 : (48 : Int32) = nI 48 := by decide
  rw [e 6 2 (by decide) (by decide) (fun _ => by decide), Inv_n2 I, nI_add]
  by_cases z : f_TB_hasRoomFor h (nI k) = 0
  · have y := rm_0 I k hk z
    rw [if_pos z, if_neg]
    rw [e48, nI_leI (by omega) (by omega)]
    omega
  · have y := rm_1 I k hk z
    rw [if_neg z, if_pos]
    rw [e48, nI_leI (by omega) (by omega)]
    omega
theorem p70 {h h1 : ev_H} {c t l u : Nat} (I : Inv h c t l) (e : mE h1 h) (hu : u < cU h) {x2 : Int32} : m_MO_process_1_70 h1 (nI u) x2 = if f_TB_isReady h u = 0 then 1 else (if f_TB_hasRoomFor h (m_TB_process_42 (nI u) x2) = 0 then 1 else 0) := by
  unfold m_MO_process_1_70
  rw [ag_ready I e hu, m42.2, ag_room I e _ (by split <;> decide), ← (m42 (x1 := nI u)).1]
theorem p92 {h h1 : ev_H} {c t l u : Nat} (I : Inv h c t l) (e : mE h1 h) (hu : u < cU h) {x2 : Int32} : m_MO_process_1_92 h1 (nI u) x2 = if f_TB_suits x2 (gI h 1 u 0) = 0 then 1 else 0 := by
  have l48 := Inv_48 I
  unfold m_MO_process_1_92
  rw [nI_clamp (by omega), rd_u7 I e hu]
  rfl
theorem pr_process_0 {h : ev_H} {c t l : Nat} (I : Inv h c t l) (hc : c < 512) {x1 x2 : Int32} (v0 : f_TB_isBelow x1 (gI h 0 0 3) = 0) : okM (f_LW_process h x1 x2) (f_MO_process_0 ((f_LW_process h x1 x2).2) x1 x2) h c := by
  have eL : f_LW_process h x1 x2 = (1, nx h) := by simp only [f_LW_process, if_pos v0]
  rw [eL]
  exact okM_rf I hc (by decide)
theorem pr_process_1 {h : ev_H} {c t l : Nat} (I : Inv h c t l) (hc : c < 512) {u : Nat} (hu : u < cU h) {x2 : Int32} : okM (f_LW_process h (nI u) x2) (f_MO_process_1 ((f_LW_process h (nI u) x2).2) (nI u) x2) h c := by
  have l48 := Inv_48 I
  have l10 := Inv_10 I
  have tb := Inv_tb I
  have cu : (nI u).toNatClampNeg = u := nI_clamp (by omega)
  have vu : ¬ f_TB_isBelow (nI u) (gI h 0 0 3) = 0 := by rw [Inv_n I, isB_mk (by omega) hu]; decide
  have su := nI_pos (n := u) (by omega)
  by_cases q1 : (f_TB_isBelow x2 4) = 0
  · have eL : f_LW_process h (nI u) x2 = ((2 : Int32), nx h) := by simp only [f_LW_process, cu, if_neg vu, if_pos q1]
    have e : mE (nx h) h := mE_sm sm_nx
    have eM : f_MO_process_1 (nx h) (nI u) x2 = (0, sI (nx h) 0 6 0 2) := by simp [f_MO_process_1, f_MO_process_1_15, f_MO_process_1_41, f_MO_process_1_70, f_MO_process_1_92, m_MO_process_1_41, cu, ag_state I e hu, ag_ready I e hu, ag_exp I e hu, ag_bar I e hu, rd_u7 I e hu, rd_u8 I e hu, rd_u9 I e hu, rd_u10 I e hu, rd_u11 I e hu, rd_u12 I e hu, rd_u13 I e hu, rd_u14 I e hu, rd_u19 I e hu, rd_u20 I e hu, in_below (x := x2) (m := 3) (n := 4) (by decide), p70 I e hu, p92 I e hu, q1, refused_0, refused_2, refused_3, refused_4, f_MO_refused1]
    rw [eL]
    show okM (2, nx h) (f_MO_process_1 (nx h) (nI u) x2) h c
    rw [eM]
    exact okM_rf I hc (by decide)
  · by_cases q2 : (f_TB_isReady h u) = 0
    · have eL : f_LW_process h (nI u) x2 = ((3 : Int32), nx h) := by simp only [f_LW_process, cu, if_neg vu, if_neg q1, if_pos q2]
      have e : mE (nx h) h := mE_sm sm_nx
      have eM : f_MO_process_1 (nx h) (nI u) x2 = (0, sI (nx h) 0 6 0 3) := by simp [f_MO_process_1, f_MO_process_1_15, f_MO_process_1_41, f_MO_process_1_70, f_MO_process_1_92, m_MO_process_1_41, cu, ag_state I e hu, ag_ready I e hu, ag_exp I e hu, ag_bar I e hu, rd_u7 I e hu, rd_u8 I e hu, rd_u9 I e hu, rd_u10 I e hu, rd_u11 I e hu, rd_u12 I e hu, rd_u13 I e hu, rd_u14 I e hu, rd_u19 I e hu, rd_u20 I e hu, in_below (x := x2) (m := 3) (n := 4) (by decide), p70 I e hu, p92 I e hu, q1, q2, refused_0, refused_2, refused_3, refused_4, f_MO_refused1]
      rw [eL]
      show okM (3, nx h) (f_MO_process_1 (nx h) (nI u) x2) h c
      rw [eM]
      exact okM_rf I hc (by decide)
    · by_cases q3 : (f_TB_hasRoomFor h (m_TB_process_42 (nI u) x2)) = 0
      · have eL : f_LW_process h (nI u) x2 = ((3 : Int32), nx h) := by simp only [f_LW_process, cu, if_neg vu, if_neg q1, if_neg q2, if_pos q3]
        have e : mE (nx h) h := mE_sm sm_nx
        have eM : f_MO_process_1 (nx h) (nI u) x2 = (0, sI (nx h) 0 6 0 3) := by simp [f_MO_process_1, f_MO_process_1_15, f_MO_process_1_41, f_MO_process_1_70, f_MO_process_1_92, m_MO_process_1_41, cu, ag_state I e hu, ag_ready I e hu, ag_exp I e hu, ag_bar I e hu, rd_u7 I e hu, rd_u8 I e hu, rd_u9 I e hu, rd_u10 I e hu, rd_u11 I e hu, rd_u12 I e hu, rd_u13 I e hu, rd_u14 I e hu, rd_u19 I e hu, rd_u20 I e hu, in_below (x := x2) (m := 3) (n := 4) (by decide), p70 I e hu, p92 I e hu, q1, q2, q3, refused_0, refused_2, refused_3, refused_4, f_MO_refused1]
        rw [eL]
        show okM (3, nx h) (f_MO_process_1 (nx h) (nI u) x2) h c
        rw [eM]
        exact okM_rf I hc (by decide)
      · by_cases q4 : (f_TB_suits x2 (gI h 1 u 0)) = 0
        · have eL : f_LW_process h (nI u) x2 = ((4 : Int32), nx h) := by simp only [f_LW_process, cu, if_neg vu, if_neg q1, if_neg q2, if_neg q3, if_pos q4]
          have e : mE (nx h) h := mE_sm sm_nx
          have eM : f_MO_process_1 (nx h) (nI u) x2 = (0, sI (nx h) 0 6 0 4) := by simp [f_MO_process_1, f_MO_process_1_15, f_MO_process_1_41, f_MO_process_1_70, f_MO_process_1_92, m_MO_process_1_41, cu, ag_state I e hu, ag_ready I e hu, ag_exp I e hu, ag_bar I e hu, rd_u7 I e hu, rd_u8 I e hu, rd_u9 I e hu, rd_u10 I e hu, rd_u11 I e hu, rd_u12 I e hu, rd_u13 I e hu, rd_u14 I e hu, rd_u19 I e hu, rd_u20 I e hu, in_below (x := x2) (m := 3) (n := 4) (by decide), p70 I e hu, p92 I e hu, q1, q2, q3, q4, refused_0, refused_2, refused_3, refused_4, f_MO_refused1]
          rw [eL]
          show okM (4, nx h) (f_MO_process_1 (nx h) (nI u) x2) h c
          rw [eM]
          exact okM_rf I hc (by decide)
        · by_cases q5 : x2 = 0
          · have eA : gI (sI h 1 u 8 5) 0 0 3 = nI (cU (sI h 1 u 8 5)) := by rw [gI_ne (by omega)]; exact Inv_n I
            have rm : cU h + 3 ≤ 48 := by
              have z := q3
              rw [m42.1, if_pos q5] at z
              exact rm_1 I 3 (by decide) z
            have hn : cU (sI h 1 u 8 5) < 48 := by show cU h < 48; omega
            have K1 := kp_all (A := sI h 1 u 8 5) (u := u) (kd := 0) (mk := 0) (lim := gI (sI h 1 u 8 5) 1 u 4) hu hn eA
            have c1 : cU (f_TB_keepProduct (sI h 1 u 8 5) u 0 0 (gI (sI h 1 u 8 5) 1 u 4)).2 = cU h + 1 := K1.2.1
            have K2 := kp_all (A := (f_TB_keepProduct (sI h 1 u 8 5) u 0 0 (gI (sI h 1 u 8 5) 1 u 4)).2) (u := u) (kd := 1) (mk := 0) (lim := gI (f_TB_keepProduct (sI h 1 u 8 5) u 0 0 (gI (sI h 1 u 8 5) 1 u 4)).2 1 u 4) (by rw [c1]; omega) (by rw [c1]; omega) (by rw [K1.2.2.1, c1]; rfl)
            have c2 : cU (f_TB_keepProduct (f_TB_keepProduct (sI h 1 u 8 5) u 0 0 (gI (sI h 1 u 8 5) 1 u 4)).2 u 1 0 (gI (f_TB_keepProduct (sI h 1 u 8 5) u 0 0 (gI (sI h 1 u 8 5) 1 u 4)).2 1 u 4)).2 = cU h + 2 := by rw [K2.2.1, c1]
            have K3 := kp_all (A := (f_TB_keepProduct (f_TB_keepProduct (sI h 1 u 8 5) u 0 0 (gI (sI h 1 u 8 5) 1 u 4)).2 u 1 0 (gI (f_TB_keepProduct (sI h 1 u 8 5) u 0 0 (gI (sI h 1 u 8 5) 1 u 4)).2 1 u 4)).2) (u := u) (kd := 2) (mk := 0) (lim := gI (f_TB_keepProduct (f_TB_keepProduct (sI h 1 u 8 5) u 0 0 (gI (sI h 1 u 8 5) 1 u 4)).2 u 1 0 (gI (f_TB_keepProduct (sI h 1 u 8 5) u 0 0 (gI (sI h 1 u 8 5) 1 u 4)).2 1 u 4)).2 0 0 5 + tab 2 0) (by rw [c2]; omega) (by rw [c2]; omega) (by rw [K2.2.2.1, c1, c2])
            have a5' : (f_TB_keepProduct (sI h 1 u 8 5) u 0 0 (gI (sI h 1 u 8 5) 1 u 4)).1 = nI (cU h) := K1.2.2.2.2.1
            have eL : f_LW_process h (nI u) x2 = ((0 : Int32), sL (f_TB_keepProduct (f_TB_keepProduct (f_TB_keepProduct (sI h 1 u 8 5) u 0 0 (gI (sI h 1 u 8 5) 1 u 4)).2 u 1 0 (gI (f_TB_keepProduct (sI h 1 u 8 5) u 0 0 (gI (sI h 1 u 8 5) 1 u 4)).2 1 u 4)).2 u 2 0 (gI (f_TB_keepProduct (f_TB_keepProduct (sI h 1 u 8 5) u 0 0 (gI (sI h 1 u 8 5) 1 u 4)).2 u 1 0 (gI (f_TB_keepProduct (sI h 1 u 8 5) u 0 0 (gI (sI h 1 u 8 5) 1 u 4)).2 1 u 4)).2 0 0 5 + tab 2 0)).2 0 27 0 ((nI (cU h)).toInt64)) := by simp only [f_LW_process, cu, if_neg vu, if_neg q1, if_neg q2, if_neg q3, if_neg q4, if_pos q5, f_TB_keepSplitProducts, hp_TB_keepSplitProducts_41, a5']
            rw [eL]
            show okM (0, sL (f_TB_keepProduct (f_TB_keepProduct (f_TB_keepProduct (sI h 1 u 8 5) u 0 0 (gI (sI h 1 u 8 5) 1 u 4)).2 u 1 0 (gI (f_TB_keepProduct (sI h 1 u 8 5) u 0 0 (gI (sI h 1 u 8 5) 1 u 4)).2 1 u 4)).2 u 2 0 (gI (f_TB_keepProduct (f_TB_keepProduct (sI h 1 u 8 5) u 0 0 (gI (sI h 1 u 8 5) 1 u 4)).2 u 1 0 (gI (f_TB_keepProduct (sI h 1 u 8 5) u 0 0 (gI (sI h 1 u 8 5) 1 u 4)).2 1 u 4)).2 0 0 5 + tab 2 0)).2 0 27 0 ((nI (cU h)).toInt64)) (f_MO_process_1 (sL (f_TB_keepProduct (f_TB_keepProduct (f_TB_keepProduct (sI h 1 u 8 5) u 0 0 (gI (sI h 1 u 8 5) 1 u 4)).2 u 1 0 (gI (f_TB_keepProduct (sI h 1 u 8 5) u 0 0 (gI (sI h 1 u 8 5) 1 u 4)).2 1 u 4)).2 u 2 0 (gI (f_TB_keepProduct (f_TB_keepProduct (sI h 1 u 8 5) u 0 0 (gI (sI h 1 u 8 5) 1 u 4)).2 u 1 0 (gI (f_TB_keepProduct (sI h 1 u 8 5) u 0 0 (gI (sI h 1 u 8 5) 1 u 4)).2 1 u 4)).2 0 0 5 + tab 2 0)).2 0 27 0 ((nI (cU h)).toInt64)) (nI u) x2) h c
            have e0 : mE (sL (f_TB_keepProduct (f_TB_keepProduct (f_TB_keepProduct (sI h 1 u 8 5) u 0 0 (gI (sI h 1 u 8 5) 1 u 4)).2 u 1 0 (gI (f_TB_keepProduct (sI h 1 u 8 5) u 0 0 (gI (sI h 1 u 8 5) 1 u 4)).2 1 u 4)).2 u 2 0 (gI (f_TB_keepProduct (f_TB_keepProduct (sI h 1 u 8 5) u 0 0 (gI (sI h 1 u 8 5) 1 u 4)).2 u 1 0 (gI (f_TB_keepProduct (sI h 1 u 8 5) u 0 0 (gI (sI h 1 u 8 5) 1 u 4)).2 1 u 4)).2 0 0 5 + tab 2 0)).2 0 27 0 ((nI (cU h)).toInt64)) h := fun i j x y z => by rw [gI_sL, K3.1 i j x y z, K2.1 i j x y z, K1.1 i j x y z, gI_ne (by omega)]
            have e : mE (sI (sL (f_TB_keepProduct (f_TB_keepProduct (f_TB_keepProduct (sI h 1 u 8 5) u 0 0 (gI (sI h 1 u 8 5) 1 u 4)).2 u 1 0 (gI (f_TB_keepProduct (sI h 1 u 8 5) u 0 0 (gI (sI h 1 u 8 5) 1 u 4)).2 1 u 4)).2 u 2 0 (gI (f_TB_keepProduct (f_TB_keepProduct (sI h 1 u 8 5) u 0 0 (gI (sI h 1 u 8 5) 1 u 4)).2 u 1 0 (gI (f_TB_keepProduct (sI h 1 u 8 5) u 0 0 (gI (sI h 1 u 8 5) 1 u 4)).2 1 u 4)).2 0 0 5 + tab 2 0)).2 0 27 0 ((nI (cU h)).toInt64)) 0 6 0 0) h := mE_tr (mE_k (by omega)) e0
            have hr : f_MO_refused (sL (f_TB_keepProduct (f_TB_keepProduct (f_TB_keepProduct (sI h 1 u 8 5) u 0 0 (gI (sI h 1 u 8 5) 1 u 4)).2 u 1 0 (gI (f_TB_keepProduct (sI h 1 u 8 5) u 0 0 (gI (sI h 1 u 8 5) 1 u 4)).2 1 u 4)).2 u 2 0 (gI (f_TB_keepProduct (f_TB_keepProduct (sI h 1 u 8 5) u 0 0 (gI (sI h 1 u 8 5) 1 u 4)).2 u 1 0 (gI (f_TB_keepProduct (sI h 1 u 8 5) u 0 0 (gI (sI h 1 u 8 5) 1 u 4)).2 1 u 4)).2 0 0 5 + tab 2 0)).2 0 27 0 ((nI (cU h)).toInt64)) 0 (m_MO_process_1_41 (nI u) x2) (m_MO_process_1_70 (sL (f_TB_keepProduct (f_TB_keepProduct (f_TB_keepProduct (sI h 1 u 8 5) u 0 0 (gI (sI h 1 u 8 5) 1 u 4)).2 u 1 0 (gI (f_TB_keepProduct (sI h 1 u 8 5) u 0 0 (gI (sI h 1 u 8 5) 1 u 4)).2 1 u 4)).2 u 2 0 (gI (f_TB_keepProduct (f_TB_keepProduct (sI h 1 u 8 5) u 0 0 (gI (sI h 1 u 8 5) 1 u 4)).2 u 1 0 (gI (f_TB_keepProduct (sI h 1 u 8 5) u 0 0 (gI (sI h 1 u 8 5) 1 u 4)).2 1 u 4)).2 0 0 5 + tab 2 0)).2 0 27 0 ((nI (cU h)).toInt64)) (nI u) x2) (m_MO_process_1_92 (sL (f_TB_keepProduct (f_TB_keepProduct (f_TB_keepProduct (sI h 1 u 8 5) u 0 0 (gI (sI h 1 u 8 5) 1 u 4)).2 u 1 0 (gI (f_TB_keepProduct (sI h 1 u 8 5) u 0 0 (gI (sI h 1 u 8 5) 1 u 4)).2 1 u 4)).2 u 2 0 (gI (f_TB_keepProduct (f_TB_keepProduct (sI h 1 u 8 5) u 0 0 (gI (sI h 1 u 8 5) 1 u 4)).2 u 1 0 (gI (f_TB_keepProduct (sI h 1 u 8 5) u 0 0 (gI (sI h 1 u 8 5) 1 u 4)).2 1 u 4)).2 0 0 5 + tab 2 0)).2 0 27 0 ((nI (cU h)).toInt64)) (nI u) x2) = ((0 : Int32), sI (sL (f_TB_keepProduct (f_TB_keepProduct (f_TB_keepProduct (sI h 1 u 8 5) u 0 0 (gI (sI h 1 u 8 5) 1 u 4)).2 u 1 0 (gI (f_TB_keepProduct (sI h 1 u 8 5) u 0 0 (gI (sI h 1 u 8 5) 1 u 4)).2 1 u 4)).2 u 2 0 (gI (f_TB_keepProduct (f_TB_keepProduct (sI h 1 u 8 5) u 0 0 (gI (sI h 1 u 8 5) 1 u 4)).2 u 1 0 (gI (f_TB_keepProduct (sI h 1 u 8 5) u 0 0 (gI (sI h 1 u 8 5) 1 u 4)).2 1 u 4)).2 0 0 5 + tab 2 0)).2 0 27 0 ((nI (cU h)).toInt64)) 0 6 0 0) := by
              have w41 : m_MO_process_1_41 (nI u) x2 = 0 := by
                unfold m_MO_process_1_41
                rw [in_below (n := 4) (by decide), if_neg q1]
              rw [w41, p70 I e0 hu, p92 I e0 hu, if_neg q2, if_neg q3, if_neg q4]
              exact refused_0
            have e2 : gI (sI (sL (f_TB_keepProduct (f_TB_keepProduct (f_TB_keepProduct (sI h 1 u 8 5) u 0 0 (gI (sI h 1 u 8 5) 1 u 4)).2 u 1 0 (gI (f_TB_keepProduct (sI h 1 u 8 5) u 0 0 (gI (sI h 1 u 8 5) 1 u 4)).2 1 u 4)).2 u 2 0 (gI (f_TB_keepProduct (f_TB_keepProduct (sI h 1 u 8 5) u 0 0 (gI (sI h 1 u 8 5) 1 u 4)).2 u 1 0 (gI (f_TB_keepProduct (sI h 1 u 8 5) u 0 0 (gI (sI h 1 u 8 5) 1 u 4)).2 1 u 4)).2 0 0 5 + tab 2 0)).2 0 27 0 ((nI (cU h)).toInt64)) 0 6 0 0) 0 6 2 = nI (cU h) := by rw [e 6 2 (by decide) (by decide) (fun _ => by decide), Inv_n2 I]
            have I1 : Inv (mg (sI h 1 u 8 5) (sI (sI (sL (f_TB_keepProduct (f_TB_keepProduct (f_TB_keepProduct (sI h 1 u 8 5) u 0 0 (gI (sI h 1 u 8 5) 1 u 4)).2 u 1 0 (gI (f_TB_keepProduct (sI h 1 u 8 5) u 0 0 (gI (sI h 1 u 8 5) 1 u 4)).2 1 u 4)).2 u 2 0 (gI (f_TB_keepProduct (f_TB_keepProduct (sI h 1 u 8 5) u 0 0 (gI (sI h 1 u 8 5) 1 u 4)).2 u 1 0 (gI (f_TB_keepProduct (sI h 1 u 8 5) u 0 0 (gI (sI h 1 u 8 5) 1 u 4)).2 1 u 4)).2 0 0 5 + tab 2 0)).2 0 27 0 ((nI (cU h)).toInt64)) 0 6 0 0) 0 15 u 5)) (c + 1) t l := us_1 (mg_0 I hc e) hu (rdy_0 q2)
            have hz := Inv_Z I
            have z1 : cZ (f_TB_keepProduct (sI h 1 u 8 5) u 0 0 (gI (sI h 1 u 8 5) 1 u 4)).2 = cZ h + 1 := K1.2.2.2.1
            have z2 : cZ (f_TB_keepProduct (f_TB_keepProduct (sI h 1 u 8 5) u 0 0 (gI (sI h 1 u 8 5) 1 u 4)).2 u 1 0 (gI (f_TB_keepProduct (sI h 1 u 8 5) u 0 0 (gI (sI h 1 u 8 5) 1 u 4)).2 1 u 4)).2 = cZ h + 2 := by rw [K2.2.2.2.1, z1]
            have J1 := ad_all (B := sI (sL (f_TB_keepProduct (f_TB_keepProduct (f_TB_keepProduct (sI h 1 u 8 5) u 0 0 (gI (sI h 1 u 8 5) 1 u 4)).2 u 1 0 (gI (f_TB_keepProduct (sI h 1 u 8 5) u 0 0 (gI (sI h 1 u 8 5) 1 u 4)).2 1 u 4)).2 u 2 0 (gI (f_TB_keepProduct (f_TB_keepProduct (sI h 1 u 8 5) u 0 0 (gI (sI h 1 u 8 5) 1 u 4)).2 u 1 0 (gI (f_TB_keepProduct (sI h 1 u 8 5) u 0 0 (gI (sI h 1 u 8 5) 1 u 4)).2 1 u 4)).2 0 0 5 + tab 2 0)).2 0 27 0 ((nI (cU h)).toInt64)) 0 6 0 0) (n := cU h) (u := u) (kd := 0) (mk := 0) (lim := -1) hn hu e2
            have J2 := ad_all (B := (f_MO_add (sI (sL (f_TB_keepProduct (f_TB_keepProduct (f_TB_keepProduct (sI h 1 u 8 5) u 0 0 (gI (sI h 1 u 8 5) 1 u 4)).2 u 1 0 (gI (f_TB_keepProduct (sI h 1 u 8 5) u 0 0 (gI (sI h 1 u 8 5) 1 u 4)).2 1 u 4)).2 u 2 0 (gI (f_TB_keepProduct (f_TB_keepProduct (sI h 1 u 8 5) u 0 0 (gI (sI h 1 u 8 5) 1 u 4)).2 u 1 0 (gI (f_TB_keepProduct (sI h 1 u 8 5) u 0 0 (gI (sI h 1 u 8 5) 1 u 4)).2 1 u 4)).2 0 0 5 + tab 2 0)).2 0 27 0 ((nI (cU h)).toInt64)) 0 6 0 0) (nI u) 0 0 (-1)).2) (n := cU h + 1) (u := u) (kd := 1) (mk := 0) (lim := -1) (by omega) (by omega) J1.1
            have J3 := ad_all (B := (f_MO_add (f_MO_add (sI (sL (f_TB_keepProduct (f_TB_keepProduct (f_TB_keepProduct (sI h 1 u 8 5) u 0 0 (gI (sI h 1 u 8 5) 1 u 4)).2 u 1 0 (gI (f_TB_keepProduct (sI h 1 u 8 5) u 0 0 (gI (sI h 1 u 8 5) 1 u 4)).2 1 u 4)).2 u 2 0 (gI (f_TB_keepProduct (f_TB_keepProduct (sI h 1 u 8 5) u 0 0 (gI (sI h 1 u 8 5) 1 u 4)).2 u 1 0 (gI (f_TB_keepProduct (sI h 1 u 8 5) u 0 0 (gI (sI h 1 u 8 5) 1 u 4)).2 1 u 4)).2 0 0 5 + tab 2 0)).2 0 27 0 ((nI (cU h)).toInt64)) 0 6 0 0) (nI u) 0 0 (-1)).2 (nI u) 1 0 (-1)).2) (n := cU h + 2) (u := u) (kd := 2) (mk := 0) (lim := 7200) (by omega) (by omega) J2.1
            have I2 := st_pr I1 hu hn (by show cZ h + 1 ≤ _; omega) (kd := 0) (mk := 0) (ex_0 I1 hu)
            have I3 := st_pr I2 (by rw [c1]; omega) (by rw [c1]; omega) (by rw [z1]; omega) (kd := 1) (mk := 0) (ex_0 I2 (by rw [c1]; omega))
            have I4 := st_pr I3 (by rw [c2]; omega) (by rw [c2]; omega) (by rw [z2]; omega) (kd := 2) (mk := 0) (ex_L I3 (by rw [c2]; omega) (L := 7200) (by decide))
            have e187 : m_MO_process_1_187 (sL (f_TB_keepProduct (f_TB_keepProduct (f_TB_keepProduct (sI h 1 u 8 5) u 0 0 (gI (sI h 1 u 8 5) 1 u 4)).2 u 1 0 (gI (f_TB_keepProduct (sI h 1 u 8 5) u 0 0 (gI (sI h 1 u 8 5) 1 u 4)).2 1 u 4)).2 u 2 0 (gI (f_TB_keepProduct (f_TB_keepProduct (sI h 1 u 8 5) u 0 0 (gI (sI h 1 u 8 5) 1 u 4)).2 u 1 0 (gI (f_TB_keepProduct (sI h 1 u 8 5) u 0 0 (gI (sI h 1 u 8 5) 1 u 4)).2 1 u 4)).2 0 0 5 + tab 2 0)).2 0 27 0 ((nI (cU h)).toInt64)) (nI u) x2 = (f_MO_add (f_MO_add (f_MO_add (sI (sL (f_TB_keepProduct (f_TB_keepProduct (f_TB_keepProduct (sI h 1 u 8 5) u 0 0 (gI (sI h 1 u 8 5) 1 u 4)).2 u 1 0 (gI (f_TB_keepProduct (sI h 1 u 8 5) u 0 0 (gI (sI h 1 u 8 5) 1 u 4)).2 1 u 4)).2 u 2 0 (gI (f_TB_keepProduct (f_TB_keepProduct (sI h 1 u 8 5) u 0 0 (gI (sI h 1 u 8 5) 1 u 4)).2 u 1 0 (gI (f_TB_keepProduct (sI h 1 u 8 5) u 0 0 (gI (sI h 1 u 8 5) 1 u 4)).2 1 u 4)).2 0 0 5 + tab 2 0)).2 0 27 0 ((nI (cU h)).toInt64)) 0 6 0 0) (nI u) 0 0 (-1)).2 (nI u) 1 0 (-1)).2 (nI u) 2 0 7200).2 := by
              unfold m_MO_process_1_187
              rw [hr, if_pos q5]
            have eM : f_MO_process_1 (sL (f_TB_keepProduct (f_TB_keepProduct (f_TB_keepProduct (sI h 1 u 8 5) u 0 0 (gI (sI h 1 u 8 5) 1 u 4)).2 u 1 0 (gI (f_TB_keepProduct (sI h 1 u 8 5) u 0 0 (gI (sI h 1 u 8 5) 1 u 4)).2 1 u 4)).2 u 2 0 (gI (f_TB_keepProduct (f_TB_keepProduct (sI h 1 u 8 5) u 0 0 (gI (sI h 1 u 8 5) 1 u 4)).2 u 1 0 (gI (f_TB_keepProduct (sI h 1 u 8 5) u 0 0 (gI (sI h 1 u 8 5) 1 u 4)).2 1 u 4)).2 0 0 5 + tab 2 0)).2 0 27 0 ((nI (cU h)).toInt64)) (nI u) x2 = (nI (cU h), sI (f_MO_add (f_MO_add (f_MO_add (sI (sL (f_TB_keepProduct (f_TB_keepProduct (f_TB_keepProduct (sI h 1 u 8 5) u 0 0 (gI (sI h 1 u 8 5) 1 u 4)).2 u 1 0 (gI (f_TB_keepProduct (sI h 1 u 8 5) u 0 0 (gI (sI h 1 u 8 5) 1 u 4)).2 1 u 4)).2 u 2 0 (gI (f_TB_keepProduct (f_TB_keepProduct (sI h 1 u 8 5) u 0 0 (gI (sI h 1 u 8 5) 1 u 4)).2 u 1 0 (gI (f_TB_keepProduct (sI h 1 u 8 5) u 0 0 (gI (sI h 1 u 8 5) 1 u 4)).2 1 u 4)).2 0 0 5 + tab 2 0)).2 0 27 0 ((nI (cU h)).toInt64)) 0 6 0 0) (nI u) 0 0 (-1)).2 (nI u) 1 0 (-1)).2 (nI u) 2 0 7200).2 0 15 u 5) := by
              have vv : vv_MO_process_1_106 (sL (f_TB_keepProduct (f_TB_keepProduct (f_TB_keepProduct (sI h 1 u 8 5) u 0 0 (gI (sI h 1 u 8 5) 1 u 4)).2 u 1 0 (gI (f_TB_keepProduct (sI h 1 u 8 5) u 0 0 (gI (sI h 1 u 8 5) 1 u 4)).2 1 u 4)).2 u 2 0 (gI (f_TB_keepProduct (f_TB_keepProduct (sI h 1 u 8 5) u 0 0 (gI (sI h 1 u 8 5) 1 u 4)).2 u 1 0 (gI (f_TB_keepProduct (sI h 1 u 8 5) u 0 0 (gI (sI h 1 u 8 5) 1 u 4)).2 1 u 4)).2 0 0 5 + tab 2 0)).2 0 27 0 ((nI (cU h)).toInt64)) (nI u) x2 = nI (cU h) := by
                unfold vv_MO_process_1_106
                rw [hr]
                exact e2
              unfold f_MO_process_1 f_MO_process_1_15 f_MO_process_1_41 f_MO_process_1_70 f_MO_process_1_92 f_MO_process_1_187
              simp only [hr, if_true, vv, e187, cu]
            rw [eM]
            refine pr_end (n := 0) e0 (mg_L I4) (fun k i j z => ?_) (by rw [show (sI (f_MO_add (f_MO_add (f_MO_add (sI (sL (f_TB_keepProduct (f_TB_keepProduct (f_TB_keepProduct (sI h 1 u 8 5) u 0 0 (gI (sI h 1 u 8 5) 1 u 4)).2 u 1 0 (gI (f_TB_keepProduct (sI h 1 u 8 5) u 0 0 (gI (sI h 1 u 8 5) 1 u 4)).2 1 u 4)).2 u 2 0 (gI (f_TB_keepProduct (f_TB_keepProduct (sI h 1 u 8 5) u 0 0 (gI (sI h 1 u 8 5) 1 u 4)).2 u 1 0 (gI (f_TB_keepProduct (sI h 1 u 8 5) u 0 0 (gI (sI h 1 u 8 5) 1 u 4)).2 1 u 4)).2 0 0 5 + tab 2 0)).2 0 27 0 ((nI (cU h)).toInt64)) 0 6 0 0) (nI u) 0 0 (-1)).2 (nI u) 1 0 (-1)).2 (nI u) 2 0 7200).2 0 15 u 5).2 = (f_MO_add (f_MO_add (f_MO_add (sI (sL (f_TB_keepProduct (f_TB_keepProduct (f_TB_keepProduct (sI h 1 u 8 5) u 0 0 (gI (sI h 1 u 8 5) 1 u 4)).2 u 1 0 (gI (f_TB_keepProduct (sI h 1 u 8 5) u 0 0 (gI (sI h 1 u 8 5) 1 u 4)).2 1 u 4)).2 u 2 0 (gI (f_TB_keepProduct (f_TB_keepProduct (sI h 1 u 8 5) u 0 0 (gI (sI h 1 u 8 5) 1 u 4)).2 u 1 0 (gI (f_TB_keepProduct (sI h 1 u 8 5) u 0 0 (gI (sI h 1 u 8 5) 1 u 4)).2 1 u 4)).2 0 0 5 + tab 2 0)).2 0 27 0 ((nI (cU h)).toInt64)) 0 6 0 0) (nI u) 0 0 (-1)).2 (nI u) 1 0 (-1)).2 (nI u) 2 0 7200).2.2 from rfl, J3.2.1, J2.2.1, J1.2.1]; rfl) ?_ ?_
            · rw [gI_ne (by omega), J3.2.2 k i j (by omega) (by omega), J2.2.2 k i j (by omega) (by omega), J1.2.2 k i j (by omega) (by omega), gI_ne (by omega)]
            · rw [gI_ne (by omega), J3.2.2 0 6 0 (by omega) (by omega), J2.2.2 0 6 0 (by omega) (by omega), J1.2.2 0 6 0 (by omega) (by omega)]
              exact gI_eq ⟨rfl, rfl, rfl⟩
            · rw [gL_sL]
          · have eA : gI (sI h 1 u 8 5) 0 0 3 = nI (cU (sI h 1 u 8 5)) := by rw [gI_ne (by omega)]; exact Inv_n I
            have rm : cU h + 1 ≤ 48 := by
              have z := q3
              rw [m42.1, if_neg q5] at z
              exact rm_1 I 1 (by decide) z
            have hn : cU (sI h 1 u 8 5) < 48 := by show cU h < 48; omega
            obtain ⟨a1, a2, a3, a4, a5, a6, a7⟩ := kp_all (A := sI h 1 u 8 5) (u := u) (kd := gI h 1 u 0) (mk := tab 1 x2.toNatClampNeg) (lim := gI h 0 0 5 + tab 2 x2.toNatClampNeg) hu hn eA
            have a5' : (f_TB_keepProduct (sI h 1 u 8 5) u (gI h 1 u 0) (tab 1 x2.toNatClampNeg) (gI h 0 0 5 + tab 2 x2.toNatClampNeg)).1 = nI (cU h) := a5
            have eL : f_LW_process h (nI u) x2 = ((0 : Int32), sL (f_TB_keepProduct (sI h 1 u 8 5) u (gI h 1 u 0) (tab 1 x2.toNatClampNeg) (gI h 0 0 5 + tab 2 x2.toNatClampNeg)).2 0 27 0 ((nI (cU h)).toInt64)) := by simp only [f_LW_process, cu, if_neg vu, if_neg q1, if_neg q2, if_neg q3, if_neg q4, if_neg q5, hp_TB_process_118, cu, gI_ne (show ¬ (1 = 1 ∧ u = u ∧ 0 = 8) by omega), gI_ne (show ¬ (0 = 1 ∧ 0 = u ∧ 5 = 8) by omega), a5']
            rw [eL]
            show okM (0, sL (f_TB_keepProduct (sI h 1 u 8 5) u (gI h 1 u 0) (tab 1 x2.toNatClampNeg) (gI h 0 0 5 + tab 2 x2.toNatClampNeg)).2 0 27 0 ((nI (cU h)).toInt64)) (f_MO_process_1 (sL (f_TB_keepProduct (sI h 1 u 8 5) u (gI h 1 u 0) (tab 1 x2.toNatClampNeg) (gI h 0 0 5 + tab 2 x2.toNatClampNeg)).2 0 27 0 ((nI (cU h)).toInt64)) (nI u) x2) h c
            have e0 : mE (sL (f_TB_keepProduct (sI h 1 u 8 5) u (gI h 1 u 0) (tab 1 x2.toNatClampNeg) (gI h 0 0 5 + tab 2 x2.toNatClampNeg)).2 0 27 0 ((nI (cU h)).toInt64)) h := fun i j x y z => by rw [gI_sL, a1 i j x y z, gI_ne (by omega)]
            have e : mE (sI (sL (f_TB_keepProduct (sI h 1 u 8 5) u (gI h 1 u 0) (tab 1 x2.toNatClampNeg) (gI h 0 0 5 + tab 2 x2.toNatClampNeg)).2 0 27 0 ((nI (cU h)).toInt64)) 0 6 0 0) h := mE_tr (mE_k (by omega)) e0
            have hr : f_MO_refused (sL (f_TB_keepProduct (sI h 1 u 8 5) u (gI h 1 u 0) (tab 1 x2.toNatClampNeg) (gI h 0 0 5 + tab 2 x2.toNatClampNeg)).2 0 27 0 ((nI (cU h)).toInt64)) 0 (m_MO_process_1_41 (nI u) x2) (m_MO_process_1_70 (sL (f_TB_keepProduct (sI h 1 u 8 5) u (gI h 1 u 0) (tab 1 x2.toNatClampNeg) (gI h 0 0 5 + tab 2 x2.toNatClampNeg)).2 0 27 0 ((nI (cU h)).toInt64)) (nI u) x2) (m_MO_process_1_92 (sL (f_TB_keepProduct (sI h 1 u 8 5) u (gI h 1 u 0) (tab 1 x2.toNatClampNeg) (gI h 0 0 5 + tab 2 x2.toNatClampNeg)).2 0 27 0 ((nI (cU h)).toInt64)) (nI u) x2) = ((0 : Int32), sI (sL (f_TB_keepProduct (sI h 1 u 8 5) u (gI h 1 u 0) (tab 1 x2.toNatClampNeg) (gI h 0 0 5 + tab 2 x2.toNatClampNeg)).2 0 27 0 ((nI (cU h)).toInt64)) 0 6 0 0) := by
              have w41 : m_MO_process_1_41 (nI u) x2 = 0 := by
                unfold m_MO_process_1_41
                rw [in_below (n := 4) (by decide), if_neg q1]
              rw [w41, p70 I e0 hu, p92 I e0 hu, if_neg q2, if_neg q3, if_neg q4]
              exact refused_0
            have e2 : gI (sI (sL (f_TB_keepProduct (sI h 1 u 8 5) u (gI h 1 u 0) (tab 1 x2.toNatClampNeg) (gI h 0 0 5 + tab 2 x2.toNatClampNeg)).2 0 27 0 ((nI (cU h)).toInt64)) 0 6 0 0) 0 6 2 = nI (cU h) := by rw [e 6 2 (by decide) (by decide) (fun _ => by decide), Inv_n2 I]
            have I1 : Inv (mg (sI h 1 u 8 5) (sI (sI (sL (f_TB_keepProduct (sI h 1 u 8 5) u (gI h 1 u 0) (tab 1 x2.toNatClampNeg) (gI h 0 0 5 + tab 2 x2.toNatClampNeg)).2 0 27 0 ((nI (cU h)).toInt64)) 0 6 0 0) 0 15 u 5)) (c + 1) t l := us_1 (mg_0 I hc e) hu (rdy_0 q2)
            have hz := Inv_Z I
            have I2 := st_pr I1 hu hn (by show cZ h + 1 ≤ _; omega) (kd := gI h 1 u 0) (mk := tab 1 x2.toNatClampNeg) (ex_L I1 hu (L := tab 2 x2.toNatClampNeg) (by rw [(tab_1 q1 q5).2]; split <;> decide))
            rw [gI_ne (show ¬ (0 = 1 ∧ 0 = u ∧ 5 = 8) by omega)] at I2
            obtain ⟨b1, b2, b3⟩ := ad_all (B := sI (sL (f_TB_keepProduct (sI h 1 u 8 5) u (gI h 1 u 0) (tab 1 x2.toNatClampNeg) (gI h 0 0 5 + tab 2 x2.toNatClampNeg)).2 0 27 0 ((nI (cU h)).toInt64)) 0 6 0 0) (n := cU h) (u := u) (kd := gI h 1 u 0) (mk := tab 1 x2.toNatClampNeg) (lim := tab 2 x2.toNatClampNeg) hn hu e2
            have e187 : m_MO_process_1_187 (sL (f_TB_keepProduct (sI h 1 u 8 5) u (gI h 1 u 0) (tab 1 x2.toNatClampNeg) (gI h 0 0 5 + tab 2 x2.toNatClampNeg)).2 0 27 0 ((nI (cU h)).toInt64)) (nI u) x2 = (f_MO_add (sI (sL (f_TB_keepProduct (sI h 1 u 8 5) u (gI h 1 u 0) (tab 1 x2.toNatClampNeg) (gI h 0 0 5 + tab 2 x2.toNatClampNeg)).2 0 27 0 ((nI (cU h)).toInt64)) 0 6 0 0) (nI u) (gI h 1 u 0) (tab 1 x2.toNatClampNeg) (tab 2 x2.toNatClampNeg)).2 := by
              unfold m_MO_process_1_187
              rw [hr]
              simp only [cu, rd_u7 I e hu, q5, if_false]
              rw [(tab_1 q1 q5).1, (tab_1 q1 q5).2]
              by_cases y1 : x2 = 1
              · have y2 : ¬ x2 = 2 := by rw [y1]; decide
                simp only [y1, if_true]
                simp
              · by_cases y2 : x2 = 2
                · simp only [y2, if_true]
                  simp
                · simp only [y1, y2, if_false]
            have eM : f_MO_process_1 (sL (f_TB_keepProduct (sI h 1 u 8 5) u (gI h 1 u 0) (tab 1 x2.toNatClampNeg) (gI h 0 0 5 + tab 2 x2.toNatClampNeg)).2 0 27 0 ((nI (cU h)).toInt64)) (nI u) x2 = (nI (cU h), sI (f_MO_add (sI (sL (f_TB_keepProduct (sI h 1 u 8 5) u (gI h 1 u 0) (tab 1 x2.toNatClampNeg) (gI h 0 0 5 + tab 2 x2.toNatClampNeg)).2 0 27 0 ((nI (cU h)).toInt64)) 0 6 0 0) (nI u) (gI h 1 u 0) (tab 1 x2.toNatClampNeg) (tab 2 x2.toNatClampNeg)).2 0 15 u 5) := by
              have vv : vv_MO_process_1_106 (sL (f_TB_keepProduct (sI h 1 u 8 5) u (gI h 1 u 0) (tab 1 x2.toNatClampNeg) (gI h 0 0 5 + tab 2 x2.toNatClampNeg)).2 0 27 0 ((nI (cU h)).toInt64)) (nI u) x2 = nI (cU h) := by
                unfold vv_MO_process_1_106
                rw [hr]
                exact e2
              unfold f_MO_process_1 f_MO_process_1_15 f_MO_process_1_41 f_MO_process_1_70 f_MO_process_1_92 f_MO_process_1_187
              simp only [hr, if_true, vv, e187, cu]
            rw [eM]
            refine pr_end (n := 0) e0 (mg_L I2) (fun k i j z => ?_) b2 ?_ ?_
            · rw [gI_ne (by omega), b3 k i j (by omega) (by omega), gI_ne (by omega)]
            · rw [gI_ne (by omega), b3 0 6 0 (by omega) (by omega)]
              exact gI_eq ⟨rfl, rfl, rfl⟩
            · rw [gL_sL]
