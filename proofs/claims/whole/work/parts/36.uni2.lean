/-! calls that write of one unit, again (by program) -/
theorem rd_nw {h h1 : ev_H} {c t l : Nat} (I : Inv h c t l) (e : mE h1 h) : gI h1 0 6 1 = gI h 0 0 5 := by rw [rd_now I e, Inv_t I]
theorem rd_17 {h h1 : ev_H} {c t l : Nat} (I : Inv h c t l) (e : mE h1 h) {u : Nat} (hu : u < cU h) (q : gI h 1 u 8 = 2) : gI h1 0 17 u = gI h 1 u 11 := by
  have w := (Inv_U I hu).2.2.1.2
  simp only at w
  rw [e 17 u (by decide) (by decide) (fun z => by omega), w]
  rw [st_2 I (mE_rf (h := h)) hu]
  exact q
theorem ta_h {h : ev_H} {u : Nat} {x : Int32} : m_UN_throwAway_13 h u x = sI h 1 u 9 (if gI h 1 u 8 = 1 then -1 else gI h 1 u 9) := by
  unfold m_UN_throwAway_13
  by_cases z : gI h 1 u 8 = 1
  · rw [if_pos z, if_pos z]
  · rw [if_neg z, if_neg z, sI_id]
theorem ih_2 {h : ev_H} {c t l : Nat} (I : Inv h c t l) {u : Nat} (hu : u < cU h) (q : ¬ f_UN_isInHouse h u = 0) : gI h 1 u 8 = 0 ∨ gI h 1 u 8 = 1 := by
  unfold f_UN_isInHouse at q
  by_cases a : gI h 1 u 8 = 0
  · exact Or.inl a
  · by_cases b : gI h 1 u 8 = 1
    · exact Or.inr b
    · rw [if_neg a, if_neg b] at q
      exact absurd rfl q
theorem ih_3 {h : ev_H} {c t l : Nat} (I : Inv h c t l) {u : Nat} (hu : u < cU h) (q : f_UN_isInHouse h u = 0) (q2 : ¬ gI h 1 u 8 = 2) : ¬ gI h 1 u 8 ≤ 2 := by
  unfold f_UN_isInHouse at q
  have a : ¬ gI h 1 u 8 = 0 := fun z => by rw [if_pos z] at q; exact absurd q (by decide)
  have b : ¬ gI h 1 u 8 = 1 := fun z => by rw [if_neg a, if_pos z] at q; exact absurd q (by decide)
  obtain ⟨j, hj, ej⟩ := st_rng I hu
  rw [ej] at a b q2 ⊢
  have : j = 0 ∨ j = 1 ∨ j = 2 ∨ j = 3 ∨ j = 4 ∨ j = 5 := by omega
  rcases this with rfl | rfl | rfl | rfl | rfl | rfl
  · exact absurd (by decide) a
  · exact absurd (by decide) b
  · exact absurd (by decide) q2
  · decide
  · decide
  · decide
theorem pr_giveBack_0 {h : ev_H} {c t l : Nat} (I : Inv h c t l) (hc : c < 512) {x1 : Int32} (v0 : f_TB_isBelow x1 (gI h 0 0 3) = 0) : okM (f_LW_giveBack h x1) (f_MO_giveBack_0 ((f_LW_giveBack h x1).2) x1) h c := by
  have eL : f_LW_giveBack h x1 = (1, nx h) := by simp only [f_LW_giveBack, if_pos v0]
  rw [eL]
  exact okM_rf I hc (by decide)
theorem pr_giveBack_1 {h : ev_H} {c t l : Nat} (I : Inv h c t l) (hc : c < 512) {u : Nat} (hu : u < cU h) : okM (f_LW_giveBack h (nI u)) (f_MO_giveBack_1 ((f_LW_giveBack h (nI u)).2) (nI u)) h c := by
  have l48 := Inv_48 I
  have l10 := Inv_10 I
  have tb := Inv_tb I
  have cu : (nI u).toNatClampNeg = u := nI_clamp (by omega)
  have vu : ¬ f_TB_isBelow (nI u) (gI h 0 0 3) = 0 := by rw [Inv_n I, isB_mk (by omega) hu]; decide
  have su := nI_pos (n := u) (by omega)
  by_cases q1 : (gI h 1 u 8) = 2
  · by_cases q2 : ((gI h 0 0 5) - (gI h 1 u 11)) < 30
    · have eL : f_LW_giveBack h (nI u) = ((0 : Int32), sL (sI (sI (sI (sI h 1 u 8 0) 1 u 9 (-1)) 1 u 12 (-1)) 1 u 13 0) 0 27 0 ((gI h 0 0 5 - gI h 1 u 11).toInt64)) := by simp only [f_LW_giveBack, cu, if_neg vu, if_pos q1, if_pos q2, f_UN_store]
      rw [eL]
      show okM (0, sL (sI (sI (sI (sI h 1 u 8 0) 1 u 9 (-1)) 1 u 12 (-1)) 1 u 13 0) 0 27 0 ((gI h 0 0 5 - gI h 1 u 11).toInt64)) (f_MO_giveBack_1 (sL (sI (sI (sI (sI h 1 u 8 0) 1 u 9 (-1)) 1 u 12 (-1)) 1 u 13 0) 0 27 0 ((gI h 0 0 5 - gI h 1 u 11).toInt64)) (nI u)) h c
      obtain ⟨⟨⟨k1, k2, k3, k4, k5⟩, k6, k7, k8, k9, k10⟩, ⟨s1, s2, s3⟩, ⟨w1, w2⟩, ⟨⟨s0, hs0, es0⟩, ⟨i0, hi0, ei0⟩, ⟨j0, hj0, ej0⟩⟩, z1, z2⟩ := Inv_U I hu
      simp only at k1 k2 k3 k4 k5 k6 k7 k8 k9 k10 s1 s2 s3 w1 w2 es0 ei0 ej0 z1 z2
      have e0 : mE (sL (sI (sI (sI (sI h 1 u 8 0) 1 u 9 (-1)) 1 u 12 (-1)) 1 u 13 0) 0 27 0 ((gI h 0 0 5 - gI h 1 u 11).toInt64)) h := fun a b x y z => by simp (disch := omega) only [gI_ne, gI_eq, gI_sL, gI_nx]
      have e : mE (sI (sL (sI (sI (sI (sI h 1 u 8 0) 1 u 9 (-1)) 1 u 12 (-1)) 1 u 13 0) 0 27 0 ((gI h 0 0 5 - gI h 1 u 11).toInt64)) 0 6 0 0) h := fun a b x y z => by simp (disch := omega) only [gI_ne, gI_eq, gI_sL, gI_nx]
      have eM : f_MO_giveBack_1 (sL (sI (sI (sI (sI h 1 u 8 0) 1 u 9 (-1)) 1 u 12 (-1)) 1 u 13 0) 0 27 0 ((gI h 0 0 5 - gI h 1 u 11).toInt64)) (nI u) = (gI h 0 0 5 - gI h 1 u 11, sI (sI (sI (sI (sL (sI (sI (sI (sI h 1 u 8 0) 1 u 9 (-1)) 1 u 12 (-1)) 1 u 13 0) 0 27 0 ((gI h 0 0 5 - gI h 1 u 11).toInt64)) 0 6 0 0) 0 15 u 0) 0 18 u 0) 0 19 u 0) := by simp [f_MO_giveBack_1, m_MO_giveBack_1_51, f_MO_giveBack_1_51, cu, ag_state I e hu, ag_ready I e hu, ag_exp I e hu, ag_bar I e hu, rd_u7 I e hu, rd_u8 I e hu, rd_u9 I e hu, rd_u10 I e hu, rd_u11 I e hu, rd_u12 I e hu, rd_u13 I e hu, rd_u14 I e hu, rd_u19 I e hu, rd_u20 I e hu, ag_state I e0 hu, ag_ready I e0 hu, ag_exp I e0 hu, ag_bar I e0 hu, rd_u7 I e0 hu, rd_u8 I e0 hu, rd_u9 I e0 hu, rd_u10 I e0 hu, rd_u11 I e0 hu, rd_u12 I e0 hu, rd_u13 I e0 hu, rd_u14 I e0 hu, rd_u19 I e0 hu, rd_u20 I e0 hu, ag_state I (mE_rf (h := h)) hu, ag_ready I (mE_rf (h := h)) hu, ag_exp I (mE_rf (h := h)) hu, ag_bar I (mE_rf (h := h)) hu, rd_u7 I (mE_rf (h := h)) hu, rd_u8 I (mE_rf (h := h)) hu, rd_u9 I (mE_rf (h := h)) hu, rd_u10 I (mE_rf (h := h)) hu, rd_u11 I (mE_rf (h := h)) hu, rd_u12 I (mE_rf (h := h)) hu, rd_u13 I (mE_rf (h := h)) hu, rd_u14 I (mE_rf (h := h)) hu, rd_u19 I (mE_rf (h := h)) hu, rd_u20 I (mE_rf (h := h)) hu, q1, q2, refused_0, st_2 I e0 hu, st_2 I (mE_rf (h := h)) hu, rd_17 I e0 hu q1, rd_17 I (mE_rf (h := h)) hu q1, rd_nw I e0, rd_nw I (mE_rf (h := h)), gI_ne, gI_sL]
      rw [eM]
      refine ⟨⟨e0, rfs_R (h := h) (fun _ _ _ => rfl) (Inv_R I)⟩, rfl, fun _ => by simp only [gL_sI, gL_sL]; exact lg_self _, t, l, Inv_unit I hc (Nat.le_refl l) (by have := I.1.2.2.2.2; omega) hu (fun k i j v a b _ _ => by unfold vis at v; simp (disch := omega) only [gI_ne, gI_eq, gI_sL, gI_nx]) (by simp (disch := omega) only [gI_ne, gI_eq, gI_sL, gI_nx]; exact Inv_l I) (by simp (disch := omega) only [gI_ne, gI_eq, gI_sL, gI_nx]; exact Inv_l2 I) (fun _ _ _ => rfl) rfl (by simp only [cZ_sI, cZ_sL]; omega) ?_ ?_⟩
      · unfold UJ stO
        simp (disch := omega) only [gI_ne, gI_eq, gI_sL, gI_nx]
        refine ⟨⟨⟨k1, k2, k3, k4, k5⟩, k6, k7, k8, ?_, k10⟩, ⟨?_, ?_, ?_⟩, ⟨?_, ?_⟩, ⟨⟨s0, hs0, es0⟩, ⟨0, by omega, by decide⟩, ⟨0, by decide, by decide⟩⟩, ?_, ?_⟩
        all_goals simp
      · intro v hv n _
        simp (disch := omega) only [gI_ne, gI_eq, gI_sL, gI_nx]
    · have eL : f_LW_giveBack h (nI u) = ((2 : Int32), nx h) := by simp only [f_LW_giveBack, cu, if_neg vu, if_pos q1, if_neg q2]
      have e : mE (nx h) h := mE_sm sm_nx
      have eM : f_MO_giveBack_1 (nx h) (nI u) = (0, sI (nx h) 0 6 0 2) := by simp [f_MO_giveBack_1, m_MO_giveBack_1_51, f_MO_giveBack_1_51, cu, ag_state I e hu, ag_ready I e hu, ag_exp I e hu, ag_bar I e hu, rd_u7 I e hu, rd_u8 I e hu, rd_u9 I e hu, rd_u10 I e hu, rd_u11 I e hu, rd_u12 I e hu, rd_u13 I e hu, rd_u14 I e hu, rd_u19 I e hu, rd_u20 I e hu, st_2 I e hu, rd_nw I e, rd_17 I e hu q1, q1, q2, refused_0, refused_2, refused_3, refused_4, f_MO_refused1]
      rw [eL]
      show okM (2, nx h) (f_MO_giveBack_1 (nx h) (nI u)) h c
      rw [eM]
      exact okM_rf I hc (by decide)
  · have eL : f_LW_giveBack h (nI u) = ((2 : Int32), nx h) := by simp only [f_LW_giveBack, cu, if_neg vu, if_neg q1]
    have e : mE (nx h) h := mE_sm sm_nx
    have eM : f_MO_giveBack_1 (nx h) (nI u) = (0, sI (nx h) 0 6 0 2) := by simp [f_MO_giveBack_1, m_MO_giveBack_1_51, f_MO_giveBack_1_51, cu, ag_state I e hu, ag_ready I e hu, ag_exp I e hu, ag_bar I e hu, rd_u7 I e hu, rd_u8 I e hu, rd_u9 I e hu, rd_u10 I e hu, rd_u11 I e hu, rd_u12 I e hu, rd_u13 I e hu, rd_u14 I e hu, rd_u19 I e hu, rd_u20 I e hu, st_2 I e hu, rd_nw I e, q1, refused_0, refused_2, refused_3, refused_4, f_MO_refused1]
    rw [eL]
    show okM (2, nx h) (f_MO_giveBack_1 (nx h) (nI u)) h c
    rw [eM]
    exact okM_rf I hc (by decide)
theorem pr_transfused_0 {h : ev_H} {c t l : Nat} (I : Inv h c t l) (hc : c < 512) {x1 : Int32} (v0 : f_TB_isBelow x1 (gI h 0 0 3) = 0) : okM (f_LW_transfused h x1) (f_MO_transfused_0 ((f_LW_transfused h x1).2) x1) h c := by
  have eL : f_LW_transfused h x1 = (1, nx h) := by simp only [f_LW_transfused, if_pos v0]
  rw [eL]
  exact okM_rf I hc (by decide)
theorem pr_transfused_1 {h : ev_H} {c t l : Nat} (I : Inv h c t l) (hc : c < 512) {u : Nat} (hu : u < cU h) : okM (f_LW_transfused h (nI u)) (f_MO_transfused_1 ((f_LW_transfused h (nI u)).2) (nI u)) h c := by
  have l48 := Inv_48 I
  have l10 := Inv_10 I
  have tb := Inv_tb I
  have cu : (nI u).toNatClampNeg = u := nI_clamp (by omega)
  have vu : ¬ f_TB_isBelow (nI u) (gI h 0 0 3) = 0 := by rw [Inv_n I, isB_mk (by omega) hu]; decide
  have su := nI_pos (n := u) (by omega)
  by_cases q1 : (gI h 1 u 8) = 2
  · have eL : f_LW_transfused h (nI u) = ((0 : Int32), sL (sI h 1 u 8 3) 0 27 0 ((gI h 1 u 9).toInt64)) := by simp only [f_LW_transfused, cu, if_neg vu, if_pos q1, gI_ne (show ¬ (1 = 1 ∧ u = u ∧ 9 = 8) by omega)]
    rw [eL]
    show okM (0, sL (sI h 1 u 8 3) 0 27 0 ((gI h 1 u 9).toInt64)) (f_MO_transfused_1 (sL (sI h 1 u 8 3) 0 27 0 ((gI h 1 u 9).toInt64)) (nI u)) h c
    obtain ⟨⟨⟨k1, k2, k3, k4, k5⟩, k6, k7, k8, k9, k10⟩, ⟨s1, s2, s3⟩, ⟨w1, w2⟩, ⟨⟨s0, hs0, es0⟩, ⟨i0, hi0, ei0⟩, ⟨j0, hj0, ej0⟩⟩, z1, z2⟩ := Inv_U I hu
    simp only at k1 k2 k3 k4 k5 k6 k7 k8 k9 k10 s1 s2 s3 w1 w2 es0 ei0 ej0 z1 z2
    have g2 : gI h 0 15 u = 2 := by rw [st_2 I (mE_rf (h := h)) hu]; exact q1
    have g18 := z2 g2
    have ew : gI h 0 16 u = gI h 1 u 9 := by rw [s2, if_pos g18]
    have e0 : mE (sL (sI h 1 u 8 3) 0 27 0 ((gI h 1 u 9).toInt64)) h := fun a b x y z => by simp (disch := omega) only [gI_ne, gI_eq, gI_sL, gI_nx]
    have e : mE (sI (sL (sI h 1 u 8 3) 0 27 0 ((gI h 1 u 9).toInt64)) 0 6 0 0) h := fun a b x y z => by simp (disch := omega) only [gI_ne, gI_eq, gI_sL, gI_nx]
    have eM : f_MO_transfused_1 (sL (sI h 1 u 8 3) 0 27 0 ((gI h 1 u 9).toInt64)) (nI u) = (gI h 1 u 9, sI (sI (sL (sI h 1 u 8 3) 0 27 0 ((gI h 1 u 9).toInt64)) 0 6 0 0) 0 15 u 3) := by simp [f_MO_transfused_1, m_MO_transfused_1_35, f_MO_transfused_1_35, cu, ag_state I e hu, ag_ready I e hu, ag_exp I e hu, ag_bar I e hu, rd_u7 I e hu, rd_u8 I e hu, rd_u9 I e hu, rd_u10 I e hu, rd_u11 I e hu, rd_u12 I e hu, rd_u13 I e hu, rd_u14 I e hu, rd_u19 I e hu, rd_u20 I e hu, ag_state I e0 hu, ag_ready I e0 hu, ag_exp I e0 hu, ag_bar I e0 hu, rd_u7 I e0 hu, rd_u8 I e0 hu, rd_u9 I e0 hu, rd_u10 I e0 hu, rd_u11 I e0 hu, rd_u12 I e0 hu, rd_u13 I e0 hu, rd_u14 I e0 hu, rd_u19 I e0 hu, rd_u20 I e0 hu, ag_state I (mE_rf (h := h)) hu, ag_ready I (mE_rf (h := h)) hu, ag_exp I (mE_rf (h := h)) hu, ag_bar I (mE_rf (h := h)) hu, rd_u7 I (mE_rf (h := h)) hu, rd_u8 I (mE_rf (h := h)) hu, rd_u9 I (mE_rf (h := h)) hu, rd_u10 I (mE_rf (h := h)) hu, rd_u11 I (mE_rf (h := h)) hu, rd_u12 I (mE_rf (h := h)) hu, rd_u13 I (mE_rf (h := h)) hu, rd_u14 I (mE_rf (h := h)) hu, rd_u19 I (mE_rf (h := h)) hu, rd_u20 I (mE_rf (h := h)) hu, q1, refused_0, st_2 I e0 hu, st_2 I (mE_rf (h := h)) hu, ew, gI_ne, gI_sL]
    rw [eM]
    refine ⟨⟨e0, rfs_R (h := h) (fun _ _ _ => rfl) (Inv_R I)⟩, rfl, fun _ => by simp only [gL_sI, gL_sL]; exact lg_self _, t, l, Inv_unit I hc (Nat.le_refl l) (by have := I.1.2.2.2.2; omega) hu (fun k i j v a b _ _ => by unfold vis at v; simp (disch := omega) only [gI_ne, gI_eq, gI_sL, gI_nx]) (by simp (disch := omega) only [gI_ne, gI_eq, gI_sL, gI_nx]; exact Inv_l I) (by simp (disch := omega) only [gI_ne, gI_eq, gI_sL, gI_nx]; exact Inv_l2 I) (fun _ _ _ => rfl) rfl (by simp only [cZ_sI, cZ_sL]; omega) ?_ ?_⟩
    · unfold UJ stO
      simp (disch := omega) only [gI_ne, gI_eq, gI_sL, gI_nx]
      refine ⟨⟨⟨k1, k2, k3, k4, k5⟩, k6, k7, k8, k9, k10⟩, ⟨?_, ?_, s3⟩, ⟨?_, ?_⟩, ⟨⟨s0, hs0, es0⟩, ⟨i0, hi0, ei0⟩, ⟨3, by decide, by decide⟩⟩, ?_, ?_⟩
      all_goals simp [ew, g18]
    · intro v hv n
      simp (disch := omega) only [gI_ne, gI_eq, gI_sL, gI_nx]
      exact I.2.2.2.2.2 u v hu hv (fun z => n z.symm)
  · have eL : f_LW_transfused h (nI u) = ((2 : Int32), nx h) := by simp only [f_LW_transfused, cu, if_neg vu, if_neg q1]
    have e : mE (nx h) h := mE_sm sm_nx
    have eM : f_MO_transfused_1 (nx h) (nI u) = (0, sI (nx h) 0 6 0 2) := by simp [f_MO_transfused_1, m_MO_transfused_1_35, f_MO_transfused_1_35, cu, ag_state I e hu, ag_ready I e hu, ag_exp I e hu, ag_bar I e hu, rd_u7 I e hu, rd_u8 I e hu, rd_u9 I e hu, rd_u10 I e hu, rd_u11 I e hu, rd_u12 I e hu, rd_u13 I e hu, rd_u14 I e hu, rd_u19 I e hu, rd_u20 I e hu, st_2 I e hu, q1, refused_0, refused_2, refused_3, refused_4, f_MO_refused1]
    rw [eL]
    show okM (2, nx h) (f_MO_transfused_1 (nx h) (nI u)) h c
    rw [eM]
    exact okM_rf I hc (by decide)
theorem pr_discard_0 {h : ev_H} {c t l : Nat} (I : Inv h c t l) (hc : c < 512) {x1 x2 : Int32} (v0 : f_TB_isBelow x1 (gI h 0 0 3) = 0) : okM (f_LW_discard h x1 x2) (f_MO_discard_0 ((f_LW_discard h x1 x2).2) x1 x2) h c := by
  have eL : f_LW_discard h x1 x2 = (1, nx h) := by simp only [f_LW_discard, if_pos v0]
  rw [eL]
  exact okM_rf I hc (by decide)
theorem pr_discard_1 {h : ev_H} {c t l : Nat} (I : Inv h c t l) (hc : c < 512) {u : Nat} (hu : u < cU h) {x2 : Int32} : okM (f_LW_discard h (nI u) x2) (f_MO_discard_1 ((f_LW_discard h (nI u) x2).2) (nI u) x2) h c := by
  have l48 := Inv_48 I
  have l10 := Inv_10 I
  have tb := Inv_tb I
  have cu : (nI u).toNatClampNeg = u := nI_clamp (by omega)
  have vu : ¬ f_TB_isBelow (nI u) (gI h 0 0 3) = 0 := by rw [Inv_n I, isB_mk (by omega) hu]; decide
  have su := nI_pos (n := u) (by omega)
  by_cases q1 : x2 < 1
  · have eL : f_LW_discard h (nI u) x2 = ((2 : Int32), nx h) := by simp only [f_LW_discard, cu, if_neg vu, if_pos q1]
    have e : mE (nx h) h := mE_sm sm_nx
    have eM : f_MO_discard_1 (nx h) (nI u) x2 = (0, sI (nx h) 0 6 0 2) := by simp [f_MO_discard_1, m_MO_discard_1_30, m_MO_discard_1_48, f_MO_discard_1_48, f_MO_discard_1_30, cu, ag_state I e hu, ag_ready I e hu, ag_exp I e hu, ag_bar I e hu, rd_u7 I e hu, rd_u8 I e hu, rd_u9 I e hu, rd_u10 I e hu, rd_u11 I e hu, rd_u12 I e hu, rd_u13 I e hu, rd_u14 I e hu, rd_u19 I e hu, rd_u20 I e hu, in_lo q1, q1, refused_0, refused_2, refused_3, refused_4, f_MO_refused1]
    rw [eL]
    show okM (2, nx h) (f_MO_discard_1 (nx h) (nI u) x2) h c
    rw [eM]
    exact okM_rf I hc (by decide)
  · by_cases q2 : x2 ≤ 5
    · by_cases q3 : (f_UN_isInHouse h u) = 0
      · by_cases q4 : (gI h 1 u 8) = 2
        · have eL : f_LW_discard h (nI u) x2 = ((0 : Int32), sL (sI (sI (sI h 1 u 9 (if gI h 1 u 8 = 1 then -1 else gI h 1 u 9)) 1 u 8 4) 1 u 14 x2) 0 27 0 ((gI h 1 u 8).toInt64)) := by simp only [f_LW_discard, cu, if_neg vu, if_neg q1, if_pos q2, if_pos q3, if_pos q4, f_UN_throwAway, f_UN_throwAway_13, ta_h]
          rw [eL]
          show okM (0, sL (sI (sI (sI h 1 u 9 (if gI h 1 u 8 = 1 then -1 else gI h 1 u 9)) 1 u 8 4) 1 u 14 x2) 0 27 0 ((gI h 1 u 8).toInt64)) (f_MO_discard_1 (sL (sI (sI (sI h 1 u 9 (if gI h 1 u 8 = 1 then -1 else gI h 1 u 9)) 1 u 8 4) 1 u 14 x2) 0 27 0 ((gI h 1 u 8).toInt64)) (nI u) x2) h c
          obtain ⟨⟨⟨k1, k2, k3, k4, k5⟩, k6, k7, k8, k9, k10⟩, ⟨s1, s2, s3⟩, ⟨w1, w2⟩, ⟨⟨s0, hs0, es0⟩, ⟨i0, hi0, ei0⟩, ⟨j0, hj0, ej0⟩⟩, z1, z2⟩ := Inv_U I hu
          simp only at k1 k2 k3 k4 k5 k6 k7 k8 k9 k10 s1 s2 s3 w1 w2 es0 ei0 ej0 z1 z2
          have hle : gI h 1 u 8 ≤ 2 := by
            first
            | (rw [q4]; decide)
            | (rcases ih_2 I hu q3 with z | z <;> rw [z] <;> decide)
          have n9 : (if gI h 1 u 8 = 1 then -1 else gI h 1 u 9) = (if 0 < gI h 0 18 u then gI h 0 16 u else -1) := by
            by_cases y : gI h 1 u 8 = 1
            · have g0 := z1 (stO_01 (g := fun a => gI h 0 a u) (Or.inr (by rw [← s1]; exact y)))
              rw [if_pos y, g0.1, if_neg z_lt]
            · rw [if_neg y, s2, ← s1, if_neg y]
          have e0 : mE (sL (sI (sI (sI h 1 u 9 (if gI h 1 u 8 = 1 then -1 else gI h 1 u 9)) 1 u 8 4) 1 u 14 x2) 0 27 0 ((gI h 1 u 8).toInt64)) h := fun a b x y z => by simp (disch := omega) only [gI_ne, gI_eq, gI_sL, gI_nx]
          have e : mE (sI (sL (sI (sI (sI h 1 u 9 (if gI h 1 u 8 = 1 then -1 else gI h 1 u 9)) 1 u 8 4) 1 u 14 x2) 0 27 0 ((gI h 1 u 8).toInt64)) 0 6 0 0) h := fun a b x y z => by simp (disch := omega) only [gI_ne, gI_eq, gI_sL, gI_nx]
          have eM : f_MO_discard_1 (sL (sI (sI (sI h 1 u 9 (if gI h 1 u 8 = 1 then -1 else gI h 1 u 9)) 1 u 8 4) 1 u 14 x2) 0 27 0 ((gI h 1 u 8).toInt64)) (nI u) x2 = (gI h 1 u 8, sI (sI (sI (sL (sI (sI (sI h 1 u 9 (if gI h 1 u 8 = 1 then -1 else gI h 1 u 9)) 1 u 8 4) 1 u 14 x2) 0 27 0 ((gI h 1 u 8).toInt64)) 0 6 0 0) 0 15 u 4) 0 20 u x2) := by simp (disch := omega) only [f_MO_discard_1, m_MO_discard_1_30, m_MO_discard_1_48, f_MO_discard_1_48, f_MO_discard_1_30, cu, ag_state I e hu, ag_ready I e hu, ag_exp I e hu, ag_bar I e hu, rd_u7 I e hu, rd_u8 I e hu, rd_u9 I e hu, rd_u10 I e hu, rd_u11 I e hu, rd_u12 I e hu, rd_u13 I e hu, rd_u14 I e hu, rd_u19 I e hu, rd_u20 I e hu, ag_state I e0 hu, ag_ready I e0 hu, ag_exp I e0 hu, ag_bar I e0 hu, rd_u7 I e0 hu, rd_u8 I e0 hu, rd_u9 I e0 hu, rd_u10 I e0 hu, rd_u11 I e0 hu, rd_u12 I e0 hu, rd_u13 I e0 hu, rd_u14 I e0 hu, rd_u19 I e0 hu, rd_u20 I e0 hu, ag_state I (mE_rf (h := h)) hu, ag_ready I (mE_rf (h := h)) hu, ag_exp I (mE_rf (h := h)) hu, ag_bar I (mE_rf (h := h)) hu, rd_u7 I (mE_rf (h := h)) hu, rd_u8 I (mE_rf (h := h)) hu, rd_u9 I (mE_rf (h := h)) hu, rd_u10 I (mE_rf (h := h)) hu, rd_u11 I (mE_rf (h := h)) hu, rd_u12 I (mE_rf (h := h)) hu, rd_u13 I (mE_rf (h := h)) hu, rd_u14 I (mE_rf (h := h)) hu, rd_u19 I (mE_rf (h := h)) hu, rd_u20 I (mE_rf (h := h)) hu, refused_0, hle, in_1 q1 q2, n10, if_false, if_true]
          rw [eM]
          refine ⟨⟨e0, rfs_R (h := h) (fun _ _ _ => rfl) (Inv_R I)⟩, rfl, fun _ => by simp only [gL_sI, gL_sL]; exact lg_self _, t, l, Inv_unit I hc (Nat.le_refl l) (by have := I.1.2.2.2.2; omega) hu (fun k i j v a b _ _ => by unfold vis at v; simp (disch := omega) only [gI_ne, gI_eq, gI_sL, gI_nx]) (by simp (disch := omega) only [gI_ne, gI_eq, gI_sL, gI_nx]; exact Inv_l I) (by simp (disch := omega) only [gI_ne, gI_eq, gI_sL, gI_nx]; exact Inv_l2 I) (fun _ _ _ => rfl) rfl (by simp only [cZ_sI, cZ_sL]; omega) ?_ ?_⟩
          · unfold UJ stO
            simp (disch := omega) only [gI_ne, gI_eq, gI_sL, gI_nx]
            refine ⟨⟨⟨k1, k2, k3, k4, k5⟩, k6, k7, k8, k9, ?_⟩, ⟨?_, ?_, s3⟩, ⟨?_, ?_⟩, ⟨⟨s0, hs0, es0⟩, ⟨i0, hi0, ei0⟩, ⟨4, by decide, by decide⟩⟩, ?_, ?_⟩
            all_goals simp [n9]
          · intro v hv n
            simp (disch := omega) only [gI_ne, gI_eq, gI_sL, gI_nx]
            exact I.2.2.2.2.2 u v hu hv (fun z => n z.symm)
        · have eL : f_LW_discard h (nI u) x2 = ((3 : Int32), nx h) := by simp only [f_LW_discard, cu, if_neg vu, if_neg q1, if_pos q2, if_pos q3, if_neg q4]
          have e : mE (nx h) h := mE_sm sm_nx
          have eM : f_MO_discard_1 (nx h) (nI u) x2 = (0, sI (nx h) 0 6 0 3) := by simp [f_MO_discard_1, m_MO_discard_1_30, m_MO_discard_1_48, f_MO_discard_1_48, f_MO_discard_1_30, cu, ag_state I e hu, ag_ready I e hu, ag_exp I e hu, ag_bar I e hu, rd_u7 I e hu, rd_u8 I e hu, rd_u9 I e hu, rd_u10 I e hu, rd_u11 I e hu, rd_u12 I e hu, rd_u13 I e hu, rd_u14 I e hu, rd_u19 I e hu, rd_u20 I e hu, in_1 q1 q2, ih_3 I hu q3 q4, q1, q2, q3, q4, refused_0, refused_2, refused_3, refused_4, f_MO_refused1]
          rw [eL]
          show okM (3, nx h) (f_MO_discard_1 (nx h) (nI u) x2) h c
          rw [eM]
          exact okM_rf I hc (by decide)
      · have eL : f_LW_discard h (nI u) x2 = ((0 : Int32), sL (sI (sI (sI h 1 u 9 (if gI h 1 u 8 = 1 then -1 else gI h 1 u 9)) 1 u 8 4) 1 u 14 x2) 0 27 0 ((gI h 1 u 8).toInt64)) := by simp only [f_LW_discard, cu, if_neg vu, if_neg q1, if_pos q2, if_neg q3, f_UN_throwAway, f_UN_throwAway_13, ta_h]
        rw [eL]
        show okM (0, sL (sI (sI (sI h 1 u 9 (if gI h 1 u 8 = 1 then -1 else gI h 1 u 9)) 1 u 8 4) 1 u 14 x2) 0 27 0 ((gI h 1 u 8).toInt64)) (f_MO_discard_1 (sL (sI (sI (sI h 1 u 9 (if gI h 1 u 8 = 1 then -1 else gI h 1 u 9)) 1 u 8 4) 1 u 14 x2) 0 27 0 ((gI h 1 u 8).toInt64)) (nI u) x2) h c
        obtain ⟨⟨⟨k1, k2, k3, k4, k5⟩, k6, k7, k8, k9, k10⟩, ⟨s1, s2, s3⟩, ⟨w1, w2⟩, ⟨⟨s0, hs0, es0⟩, ⟨i0, hi0, ei0⟩, ⟨j0, hj0, ej0⟩⟩, z1, z2⟩ := Inv_U I hu
        simp only at k1 k2 k3 k4 k5 k6 k7 k8 k9 k10 s1 s2 s3 w1 w2 es0 ei0 ej0 z1 z2
        have hle : gI h 1 u 8 ≤ 2 := by
          first
          | (rw [q4]; decide)
          | (rcases ih_2 I hu q3 with z | z <;> rw [z] <;> decide)
        have n9 : (if gI h 1 u 8 = 1 then -1 else gI h 1 u 9) = (if 0 < gI h 0 18 u then gI h 0 16 u else -1) := by
          by_cases y : gI h 1 u 8 = 1
          · have g0 := z1 (stO_01 (g := fun a => gI h 0 a u) (Or.inr (by rw [← s1]; exact y)))
            rw [if_pos y, g0.1, if_neg z_lt]
          · rw [if_neg y, s2, ← s1, if_neg y]
        have e0 : mE (sL (sI (sI (sI h 1 u 9 (if gI h 1 u 8 = 1 then -1 else gI h 1 u 9)) 1 u 8 4) 1 u 14 x2) 0 27 0 ((gI h 1 u 8).toInt64)) h := fun a b x y z => by simp (disch := omega) only [gI_ne, gI_eq, gI_sL, gI_nx]
        have e : mE (sI (sL (sI (sI (sI h 1 u 9 (if gI h 1 u 8 = 1 then -1 else gI h 1 u 9)) 1 u 8 4) 1 u 14 x2) 0 27 0 ((gI h 1 u 8).toInt64)) 0 6 0 0) h := fun a b x y z => by simp (disch := omega) only [gI_ne, gI_eq, gI_sL, gI_nx]
        have eM : f_MO_discard_1 (sL (sI (sI (sI h 1 u 9 (if gI h 1 u 8 = 1 then -1 else gI h 1 u 9)) 1 u 8 4) 1 u 14 x2) 0 27 0 ((gI h 1 u 8).toInt64)) (nI u) x2 = (gI h 1 u 8, sI (sI (sI (sL (sI (sI (sI h 1 u 9 (if gI h 1 u 8 = 1 then -1 else gI h 1 u 9)) 1 u 8 4) 1 u 14 x2) 0 27 0 ((gI h 1 u 8).toInt64)) 0 6 0 0) 0 15 u 4) 0 20 u x2) := by simp (disch := omega) only [f_MO_discard_1, m_MO_discard_1_30, m_MO_discard_1_48, f_MO_discard_1_48, f_MO_discard_1_30, cu, ag_state I e hu, ag_ready I e hu, ag_exp I e hu, ag_bar I e hu, rd_u7 I e hu, rd_u8 I e hu, rd_u9 I e hu, rd_u10 I e hu, rd_u11 I e hu, rd_u12 I e hu, rd_u13 I e hu, rd_u14 I e hu, rd_u19 I e hu, rd_u20 I e hu, ag_state I e0 hu, ag_ready I e0 hu, ag_exp I e0 hu, ag_bar I e0 hu, rd_u7 I e0 hu, rd_u8 I e0 hu, rd_u9 I e0 hu, rd_u10 I e0 hu, rd_u11 I e0 hu, rd_u12 I e0 hu, rd_u13 I e0 hu, rd_u14 I e0 hu, rd_u19 I e0 hu, rd_u20 I e0 hu, ag_state I (mE_rf (h := h)) hu, ag_ready I (mE_rf (h := h)) hu, ag_exp I (mE_rf (h := h)) hu, ag_bar I (mE_rf (h := h)) hu, rd_u7 I (mE_rf (h := h)) hu, rd_u8 I (mE_rf (h := h)) hu, rd_u9 I (mE_rf (h := h)) hu, rd_u10 I (mE_rf (h := h)) hu, rd_u11 I (mE_rf (h := h)) hu, rd_u12 I (mE_rf (h := h)) hu, rd_u13 I (mE_rf (h := h)) hu, rd_u14 I (mE_rf (h := h)) hu, rd_u19 I (mE_rf (h := h)) hu, rd_u20 I (mE_rf (h := h)) hu, refused_0, hle, in_1 q1 q2, n10, if_false, if_true]
        rw [eM]
        refine ⟨⟨e0, rfs_R (h := h) (fun _ _ _ => rfl) (Inv_R I)⟩, rfl, fun _ => by simp only [gL_sI, gL_sL]; exact lg_self _, t, l, Inv_unit I hc (Nat.le_refl l) (by have := I.1.2.2.2.2; omega) hu (fun k i j v a b _ _ => by unfold vis at v; simp (disch := omega) only [gI_ne, gI_eq, gI_sL, gI_nx]) (by simp (disch := omega) only [gI_ne, gI_eq, gI_sL, gI_nx]; exact Inv_l I) (by simp (disch := omega) only [gI_ne, gI_eq, gI_sL, gI_nx]; exact Inv_l2 I) (fun _ _ _ => rfl) rfl (by simp only [cZ_sI, cZ_sL]; omega) ?_ ?_⟩
        · unfold UJ stO
          simp (disch := omega) only [gI_ne, gI_eq, gI_sL, gI_nx]
          refine ⟨⟨⟨k1, k2, k3, k4, k5⟩, k6, k7, k8, k9, ?_⟩, ⟨?_, ?_, s3⟩, ⟨?_, ?_⟩, ⟨⟨s0, hs0, es0⟩, ⟨i0, hi0, ei0⟩, ⟨4, by decide, by decide⟩⟩, ?_, ?_⟩
          all_goals simp [n9]
        · intro v hv n
          simp (disch := omega) only [gI_ne, gI_eq, gI_sL, gI_nx]
          exact I.2.2.2.2.2 u v hu hv (fun z => n z.symm)
    · have eL : f_LW_discard h (nI u) x2 = ((2 : Int32), nx h) := by simp only [f_LW_discard, cu, if_neg vu, if_neg q1, if_neg q2]
      have e : mE (nx h) h := mE_sm sm_nx
      have eM : f_MO_discard_1 (nx h) (nI u) x2 = (0, sI (nx h) 0 6 0 2) := by simp [f_MO_discard_1, m_MO_discard_1_30, m_MO_discard_1_48, f_MO_discard_1_48, f_MO_discard_1_30, cu, ag_state I e hu, ag_ready I e hu, ag_exp I e hu, ag_bar I e hu, rd_u7 I e hu, rd_u8 I e hu, rd_u9 I e hu, rd_u10 I e hu, rd_u11 I e hu, rd_u12 I e hu, rd_u13 I e hu, rd_u14 I e hu, rd_u19 I e hu, rd_u20 I e hu, in_hi q2, q1, q2, refused_0, refused_2, refused_3, refused_4, f_MO_refused1]
      rw [eL]
      show okM (2, nx h) (f_MO_discard_1 (nx h) (nI u) x2) h c
      rw [eM]
      exact okM_rf I hc (by decide)
