/-! calls that write of one unit (by program) -/
theorem stO_01 {t : Nat} {g : Nat → Int32} (q : stO (nI t) g = 0 ∨ stO (nI t) g = 1) : g 15 = 0 ∨ g 15 = 1 := by
  unfold stO at q
  by_cases z : g 15 = 1
  · exact Or.inr z
  · rw [if_neg z] at q
    exact q
theorem stO_2 {t : Nat} {g : Nat → Int32} {v : Int32} (h0 : v ≠ 0) (h1 : v ≠ 1) : (g 15 = v) = (stO (nI t) g = v) := by
  unfold stO
  refine propext ⟨fun z => ?_, fun z => ?_⟩
  · rw [if_neg (by rw [z]; exact h1)]
    exact z
  · by_cases y : g 15 = 1
    · rw [if_pos y] at z
      split at z
      · exact z
      · exact absurd z.symm h0
    · rw [if_neg y] at z
      exact z
theorem st_2 {h h1 : ev_H} {c t l : Nat} (I : Inv h c t l) (e : mE h1 h) {u : Nat} (hu : u < cU h) : (gI h1 0 15 u = 2) = (gI h 1 u 8 = 2) := by
  have q := (Inv_U I hu).2.1.1
  simp only at q
  rw [q, e 15 u (by decide) (by decide) (fun z => by omega)]
  exact stO_2 (g := fun a => gI h 0 a u) (by decide) (by decide)
theorem st_rng {h : ev_H} {c t l : Nat} (I : Inv h c t l) {u : Nat} (hu : u < cU h) : ∃ j, j < 6 ∧ gI h 1 u 8 = nI j := by
  have q := (Inv_U I hu).2.1.1
  obtain ⟨j, hj, ej⟩ := (Inv_U I hu).2.2.2.1.2.2
  simp only at q ej
  rw [q]
  unfold stO
  simp only
  split
  · split
    · exact ⟨j, hj, ej⟩
    · exact ⟨0, by decide, by decide⟩
  · exact ⟨j, hj, ej⟩
theorem rdy_0 {h : ev_H} {u : Nat} (q : ¬ f_TB_isReady h u = 0) : gI h 1 u 8 = 0 := by
  unfold f_TB_isReady at q
  by_cases z : gI h 1 u 8 = 0
  · exact z
  · rw [if_neg z] at q
    exact absurd rfl q
theorem clr_1 {h : ev_H} {p u : Nat} {x : Int32} : (if f_RU_reason h p u = 0 then (if m_TB_isCleared_24 h p u x = 0 then (1 : Int32) else 0) else 1) = if f_TB_isCleared h p u x = 0 then 1 else 0 := by
  unfold f_TB_isCleared f_TB_isCleared_24
  by_cases a : m_TB_isCleared_24 h p u x = 0 <;> by_cases b : f_RU_reason h p u = 0 <;> simp [a, b]
theorem m11 : ((-1 : Int32) = 0 - 1) := by decide
theorem z_lt : ¬ (0 : Int32) < 0 := by decide
theorem pr_antigen_0 {h : ev_H} {c t l : Nat} (I : Inv h c t l) (hc : c < 512) {x1 x2 x3 : Int32} (v0 : f_TB_isBelow x1 (gI h 0 0 3) = 0) : okV (f_LW_antigen h x1 x2 x3) (f_MO_antigen_0 ((f_LW_antigen h x1 x2 x3).2) x1 x2 x3) h c := by
  have eL : f_LW_antigen h x1 x2 x3 = (1, nx h) := by simp only [f_LW_antigen, if_pos v0]
  rw [eL]
  exact okV_rf I hc
theorem pr_antigen_1 {h : ev_H} {c t l : Nat} (I : Inv h c t l) (hc : c < 512) {u : Nat} (hu : u < cU h) {x2 x3 : Int32} : okV (f_LW_antigen h (nI u) x2 x3) (f_MO_antigen_1 ((f_LW_antigen h (nI u) x2 x3).2) (nI u) x2 x3) h c := by
  have l48 := Inv_48 I
  have l10 := Inv_10 I
  have tb := Inv_tb I
  have cu : (nI u).toNatClampNeg = u := nI_clamp (by omega)
  have vu : ¬ f_TB_isBelow (nI u) (gI h 0 0 3) = 0 := by rw [Inv_n I, isB_mk (by omega) hu]; decide
  have su := nI_pos (n := u) (by omega)
  by_cases q1 : (f_TB_isBelow x2 8) = 0
  · have eL : f_LW_antigen h (nI u) x2 x3 = ((2 : Int32), nx h) := by simp only [f_LW_antigen, cu, if_neg vu, if_pos q1]
    have e : mE (nx h) h := mE_sm sm_nx
    have eM : f_MO_antigen_1 (nx h) (nI u) x2 x3 = sI (nx h) 0 6 0 2 := by simp [f_MO_antigen_1, m_MO_antigen_1_38, m_MO_antigen_1_59, m_MO_antigen_1_102, m_MO_antigen_1_137, hp_MO_antigen_1_138, f_MO_antigen_1_137, f_MO_antigen_1_102, f_MO_antigen_1_59, f_MO_antigen_1_38, cu, ag_state I e hu, ag_ready I e hu, ag_exp I e hu, ag_bar I e hu, rd_u7 I e hu, rd_u8 I e hu, rd_u9 I e hu, rd_u10 I e hu, rd_u11 I e hu, rd_u12 I e hu, rd_u13 I e hu, rd_u14 I e hu, rd_u19 I e hu, rd_u20 I e hu, in_below (x := x2) (m := 7) (n := 8) (by decide), q1, refused_0, refused_2, refused_3, refused_4, f_MO_refused1]
    rw [eL]
    show okV (2, nx h) (f_MO_antigen_1 (nx h) (nI u) x2 x3) h c
    rw [eM]
    exact okV_rf I hc
  · by_cases q2 : x3 < 0
    · have eL : f_LW_antigen h (nI u) x2 x3 = ((2 : Int32), nx h) := by simp only [f_LW_antigen, cu, if_neg vu, if_neg q1, if_pos q2]
      have e : mE (nx h) h := mE_sm sm_nx
      have eM : f_MO_antigen_1 (nx h) (nI u) x2 x3 = sI (nx h) 0 6 0 2 := by simp [f_MO_antigen_1, m_MO_antigen_1_38, m_MO_antigen_1_59, m_MO_antigen_1_102, m_MO_antigen_1_137, hp_MO_antigen_1_138, f_MO_antigen_1_137, f_MO_antigen_1_102, f_MO_antigen_1_59, f_MO_antigen_1_38, cu, ag_state I e hu, ag_ready I e hu, ag_exp I e hu, ag_bar I e hu, rd_u7 I e hu, rd_u8 I e hu, rd_u9 I e hu, rd_u10 I e hu, rd_u11 I e hu, rd_u12 I e hu, rd_u13 I e hu, rd_u14 I e hu, rd_u19 I e hu, rd_u20 I e hu, in_below (x := x2) (m := 7) (n := 8) (by decide), in_lo q2, q1, q2, refused_0, refused_2, refused_3, refused_4, f_MO_refused1]
      rw [eL]
      show okV (2, nx h) (f_MO_antigen_1 (nx h) (nI u) x2 x3) h c
      rw [eM]
      exact okV_rf I hc
    · by_cases q3 : x3 ≤ 2
      · by_cases q4 : (gI h 1 u 8) = 0
        · have eL : f_LW_antigen h (nI u) x2 x3 = ((0 : Int32), sI (sI h 1 u 5 (if x3 = 1 then gI h 1 u 5 ||| (1 <<< (x2 &&& 31)) else gI h 1 u 5 &&& ((1 <<< (x2 &&& 31)) ^^^ (-1)))) 1 u 6 (if x3 = 0 then gI h 1 u 6 ||| (1 <<< (x2 &&& 31)) else gI h 1 u 6 &&& ((1 <<< (x2 &&& 31)) ^^^ (-1)))) := by simp only [f_LW_antigen, cu, if_neg vu, if_neg q1, if_neg q2, if_pos q3, if_pos q4, f_UN_setAntigen, f_UN_setAntigen_27, f_UN_setAntigen_52, m_UN_setAntigen_27, m_UN_setAntigen_52, gI_ne (show ¬ (1 = 1 ∧ u = u ∧ 6 = 5) by omega)]
          rw [eL]
          show okV (0, sI (sI h 1 u 5 (if x3 = 1 then gI h 1 u 5 ||| (1 <<< (x2 &&& 31)) else gI h 1 u 5 &&& ((1 <<< (x2 &&& 31)) ^^^ (-1)))) 1 u 6 (if x3 = 0 then gI h 1 u 6 ||| (1 <<< (x2 &&& 31)) else gI h 1 u 6 &&& ((1 <<< (x2 &&& 31)) ^^^ (-1)))) (f_MO_antigen_1 (sI (sI h 1 u 5 (if x3 = 1 then gI h 1 u 5 ||| (1 <<< (x2 &&& 31)) else gI h 1 u 5 &&& ((1 <<< (x2 &&& 31)) ^^^ (-1)))) 1 u 6 (if x3 = 0 then gI h 1 u 6 ||| (1 <<< (x2 &&& 31)) else gI h 1 u 6 &&& ((1 <<< (x2 &&& 31)) ^^^ (-1)))) (nI u) x2 x3) h c
          obtain ⟨⟨⟨k1, k2, k3, k4, k5⟩, k6, k7, k8, k9, k10⟩, ⟨s1, s2, s3⟩, ⟨w1, w2⟩, ⟨⟨s0, hs0, es0⟩, ⟨i0, hi0, ei0⟩, ⟨j0, hj0, ej0⟩⟩, z1, z2⟩ := Inv_U I hu
          simp only at k1 k2 k3 k4 k5 k6 k7 k8 k9 k10 s1 s2 s3 w1 w2 es0 ei0 ej0 z1 z2
          have e0 : mE (sI (sI h 1 u 5 (if x3 = 1 then gI h 1 u 5 ||| (1 <<< (x2 &&& 31)) else gI h 1 u 5 &&& ((1 <<< (x2 &&& 31)) ^^^ (-1)))) 1 u 6 (if x3 = 0 then gI h 1 u 6 ||| (1 <<< (x2 &&& 31)) else gI h 1 u 6 &&& ((1 <<< (x2 &&& 31)) ^^^ (-1)))) h := fun a b x y z => by simp (disch := omega) only [gI_ne, gI_eq, gI_sL, gI_nx]
          have e : mE (sI (sI (sI h 1 u 5 (if x3 = 1 then gI h 1 u 5 ||| (1 <<< (x2 &&& 31)) else gI h 1 u 5 &&& ((1 <<< (x2 &&& 31)) ^^^ (-1)))) 1 u 6 (if x3 = 0 then gI h 1 u 6 ||| (1 <<< (x2 &&& 31)) else gI h 1 u 6 &&& ((1 <<< (x2 &&& 31)) ^^^ (-1)))) 0 6 0 0) h := fun a b x y z => by simp (disch := omega) only [gI_ne, gI_eq, gI_sL, gI_nx]
          have eM : f_MO_antigen_1 (sI (sI h 1 u 5 (if x3 = 1 then gI h 1 u 5 ||| (1 <<< (x2 &&& 31)) else gI h 1 u 5 &&& ((1 <<< (x2 &&& 31)) ^^^ (-1)))) 1 u 6 (if x3 = 0 then gI h 1 u 6 ||| (1 <<< (x2 &&& 31)) else gI h 1 u 6 &&& ((1 <<< (x2 &&& 31)) ^^^ (-1)))) (nI u) x2 x3 = sI (sI (sI (sI (sI h 1 u 5 (if x3 = 1 then gI h 1 u 5 ||| (1 <<< (x2 &&& 31)) else gI h 1 u 5 &&& ((1 <<< (x2 &&& 31)) ^^^ (-1)))) 1 u 6 (if x3 = 0 then gI h 1 u 6 ||| (1 <<< (x2 &&& 31)) else gI h 1 u 6 &&& ((1 <<< (x2 &&& 31)) ^^^ (-1)))) 0 6 0 0) 0 10 u (if x3 = 1 then gI h 1 u 5 ||| (1 <<< (x2 &&& 31)) else gI h 1 u 5 &&& ((1 <<< (x2 &&& 31)) ^^^ (-1)))) 0 11 u (if x3 = 0 then gI h 1 u 6 ||| (1 <<< (x2 &&& 31)) else gI h 1 u 6 &&& ((1 <<< (x2 &&& 31)) ^^^ (-1))) := by simp (disch := omega) only [f_MO_antigen_1, m_MO_antigen_1_38, m_MO_antigen_1_59, m_MO_antigen_1_102, m_MO_antigen_1_137, hp_MO_antigen_1_138, f_MO_antigen_1_137, f_MO_antigen_1_102, f_MO_antigen_1_59, f_MO_antigen_1_38, cu, ag_state I e hu, ag_ready I e hu, ag_exp I e hu, ag_bar I e hu, rd_u7 I e hu, rd_u8 I e hu, rd_u9 I e hu, rd_u10 I e hu, rd_u11 I e hu, rd_u12 I e hu, rd_u13 I e hu, rd_u14 I e hu, rd_u19 I e hu, rd_u20 I e hu, ag_state I e0 hu, ag_ready I e0 hu, ag_exp I e0 hu, ag_bar I e0 hu, rd_u7 I e0 hu, rd_u8 I e0 hu, rd_u9 I e0 hu, rd_u10 I e0 hu, rd_u11 I e0 hu, rd_u12 I e0 hu, rd_u13 I e0 hu, rd_u14 I e0 hu, rd_u19 I e0 hu, rd_u20 I e0 hu, ag_state I (mE_rf (h := h)) hu, ag_ready I (mE_rf (h := h)) hu, ag_exp I (mE_rf (h := h)) hu, ag_bar I (mE_rf (h := h)) hu, rd_u7 I (mE_rf (h := h)) hu, rd_u8 I (mE_rf (h := h)) hu, rd_u9 I (mE_rf (h := h)) hu, rd_u10 I (mE_rf (h := h)) hu, rd_u11 I (mE_rf (h := h)) hu, rd_u12 I (mE_rf (h := h)) hu, rd_u13 I (mE_rf (h := h)) hu, rd_u14 I (mE_rf (h := h)) hu, rd_u19 I (mE_rf (h := h)) hu, rd_u20 I (mE_rf (h := h)) hu, in_below (x := x2) (m := 7) (n := 8) (by decide), q1, q2, q3, q4, refused_0, in_1 q2 q3, n10, if_false, if_true, gI_ne]
          rw [eM]
          refine ⟨⟨e0, rfs_R (h := h) (fun _ _ _ => rfl) (Inv_R I)⟩, rfl, t, l, Inv_unit I hc (Nat.le_refl l) (by have := I.1.2.2.2.2; omega) hu (fun k i j v a b _ _ => by unfold vis at v; simp (disch := omega) only [gI_ne, gI_eq, gI_sL, gI_nx]) (by simp (disch := omega) only [gI_ne, gI_eq, gI_sL, gI_nx]; exact Inv_l I) (by simp (disch := omega) only [gI_ne, gI_eq, gI_sL, gI_nx]; exact Inv_l2 I) (fun _ _ _ => rfl) rfl (by simp only [cZ_sI, cZ_sL]; omega) ?_ ?_⟩
          · unfold UJ stO
            simp (disch := omega) only [gI_ne, gI_eq, gI_sL, gI_nx]
            exact ⟨⟨⟨k1, k2, k3, k4, k5⟩, trivial, trivial, k8, k9, k10⟩, ⟨s1, s2, s3⟩, ⟨w1, w2⟩, ⟨⟨s0, hs0, es0⟩, ⟨i0, hi0, ei0⟩, ⟨j0, hj0, ej0⟩⟩, z1, z2⟩
          · intro v hv n
            simp (disch := omega) only [gI_ne, gI_eq, gI_sL, gI_nx]
            exact I.2.2.2.2.2 u v hu hv (fun z => n z.symm)
        · have eL : f_LW_antigen h (nI u) x2 x3 = ((3 : Int32), nx h) := by simp only [f_LW_antigen, cu, if_neg vu, if_neg q1, if_neg q2, if_pos q3, if_neg q4]
          have e : mE (nx h) h := mE_sm sm_nx
          have eM : f_MO_antigen_1 (nx h) (nI u) x2 x3 = sI (nx h) 0 6 0 3 := by simp [f_MO_antigen_1, m_MO_antigen_1_38, m_MO_antigen_1_59, m_MO_antigen_1_102, m_MO_antigen_1_137, hp_MO_antigen_1_138, f_MO_antigen_1_137, f_MO_antigen_1_102, f_MO_antigen_1_59, f_MO_antigen_1_38, cu, ag_state I e hu, ag_ready I e hu, ag_exp I e hu, ag_bar I e hu, rd_u7 I e hu, rd_u8 I e hu, rd_u9 I e hu, rd_u10 I e hu, rd_u11 I e hu, rd_u12 I e hu, rd_u13 I e hu, rd_u14 I e hu, rd_u19 I e hu, rd_u20 I e hu, in_below (x := x2) (m := 7) (n := 8) (by decide), in_1 q2 q3, q1, q2, q3, q4, refused_0, refused_2, refused_3, refused_4, f_MO_refused1]
          rw [eL]
          show okV (3, nx h) (f_MO_antigen_1 (nx h) (nI u) x2 x3) h c
          rw [eM]
          exact okV_rf I hc
      · have eL : f_LW_antigen h (nI u) x2 x3 = ((2 : Int32), nx h) := by simp only [f_LW_antigen, cu, if_neg vu, if_neg q1, if_neg q2, if_neg q3]
        have e : mE (nx h) h := mE_sm sm_nx
        have eM : f_MO_antigen_1 (nx h) (nI u) x2 x3 = sI (nx h) 0 6 0 2 := by simp [f_MO_antigen_1, m_MO_antigen_1_38, m_MO_antigen_1_59, m_MO_antigen_1_102, m_MO_antigen_1_137, hp_MO_antigen_1_138, f_MO_antigen_1_137, f_MO_antigen_1_102, f_MO_antigen_1_59, f_MO_antigen_1_38, cu, ag_state I e hu, ag_ready I e hu, ag_exp I e hu, ag_bar I e hu, rd_u7 I e hu, rd_u8 I e hu, rd_u9 I e hu, rd_u10 I e hu, rd_u11 I e hu, rd_u12 I e hu, rd_u13 I e hu, rd_u14 I e hu, rd_u19 I e hu, rd_u20 I e hu, in_below (x := x2) (m := 7) (n := 8) (by decide), in_hi q3, q1, q2, q3, refused_0, refused_2, refused_3, refused_4, f_MO_refused1]
        rw [eL]
        show okV (2, nx h) (f_MO_antigen_1 (nx h) (nI u) x2 x3) h c
        rw [eM]
        exact okV_rf I hc
theorem pr_release_0 {h : ev_H} {c t l : Nat} (I : Inv h c t l) (hc : c < 512) {x1 : Int32} (v0 : f_TB_isBelow x1 (gI h 0 0 3) = 0) : okM (f_LW_release h x1) (f_MO_release_0 ((f_LW_release h x1).2) x1) h c := by
  have eL : f_LW_release h x1 = (1, nx h) := by simp only [f_LW_release, if_pos v0]
  rw [eL]
  exact okM_rf I hc (by decide)
theorem pr_release_1 {h : ev_H} {c t l : Nat} (I : Inv h c t l) (hc : c < 512) {u : Nat} (hu : u < cU h) : okM (f_LW_release h (nI u)) (f_MO_release_1 ((f_LW_release h (nI u)).2) (nI u)) h c := by
  have l48 := Inv_48 I
  have l10 := Inv_10 I
  have tb := Inv_tb I
  have cu : (nI u).toNatClampNeg = u := nI_clamp (by omega)
  have vu : ¬ f_TB_isBelow (nI u) (gI h 0 0 3) = 0 := by rw [Inv_n I, isB_mk (by omega) hu]; decide
  have su := nI_pos (n := u) (by omega)
  by_cases q1 : (gI h 1 u 8) = 1
  · have eL : f_LW_release h (nI u) = ((0 : Int32), sL (sI (sI (sI (sI h 1 u 8 0) 1 u 9 (-1)) 1 u 12 (-1)) 1 u 13 0) 0 27 0 ((gI h 1 u 9).toInt64)) := by simp only [f_LW_release, cu, if_neg vu, if_pos q1, f_UN_store]
    rw [eL]
    show okM (0, sL (sI (sI (sI (sI h 1 u 8 0) 1 u 9 (-1)) 1 u 12 (-1)) 1 u 13 0) 0 27 0 ((gI h 1 u 9).toInt64)) (f_MO_release_1 (sL (sI (sI (sI (sI h 1 u 8 0) 1 u 9 (-1)) 1 u 12 (-1)) 1 u 13 0) 0 27 0 ((gI h 1 u 9).toInt64)) (nI u)) h c
    obtain ⟨⟨⟨k1, k2, k3, k4, k5⟩, k6, k7, k8, k9, k10⟩, ⟨s1, s2, s3⟩, ⟨w1, w2⟩, ⟨⟨s0, hs0, es0⟩, ⟨i0, hi0, ei0⟩, ⟨j0, hj0, ej0⟩⟩, z1, z2⟩ := Inv_U I hu
    simp only at k1 k2 k3 k4 k5 k6 k7 k8 k9 k10 s1 s2 s3 w1 w2 es0 ei0 ej0 z1 z2
    have g0 := z1 (stO_01 (g := fun a => gI h 0 a u) (Or.inr (by rw [← s1]; exact q1)))
    have ew : gI h 0 16 u = gI h 1 u 9 := by rw [s2, ← s1, if_pos q1, ite_self]
    have e0 : mE (sL (sI (sI (sI (sI h 1 u 8 0) 1 u 9 (-1)) 1 u 12 (-1)) 1 u 13 0) 0 27 0 ((gI h 1 u 9).toInt64)) h := fun a b x y z => by simp (disch := omega) only [gI_ne, gI_eq, gI_sL, gI_nx]
    have e : mE (sI (sL (sI (sI (sI (sI h 1 u 8 0) 1 u 9 (-1)) 1 u 12 (-1)) 1 u 13 0) 0 27 0 ((gI h 1 u 9).toInt64)) 0 6 0 0) h := fun a b x y z => by simp (disch := omega) only [gI_ne, gI_eq, gI_sL, gI_nx]
    have eM : f_MO_release_1 (sL (sI (sI (sI (sI h 1 u 8 0) 1 u 9 (-1)) 1 u 12 (-1)) 1 u 13 0) 0 27 0 ((gI h 1 u 9).toInt64)) (nI u) = (gI h 1 u 9, sI (sI (sL (sI (sI (sI (sI h 1 u 8 0) 1 u 9 (-1)) 1 u 12 (-1)) 1 u 13 0) 0 27 0 ((gI h 1 u 9).toInt64)) 0 6 0 0) 0 15 u 0) := by simp [f_MO_release_1, m_MO_release_1_34, f_MO_release_1_34, cu, ag_state I e hu, ag_ready I e hu, ag_exp I e hu, ag_bar I e hu, rd_u7 I e hu, rd_u8 I e hu, rd_u9 I e hu, rd_u10 I e hu, rd_u11 I e hu, rd_u12 I e hu, rd_u13 I e hu, rd_u14 I e hu, rd_u19 I e hu, rd_u20 I e hu, ag_state I e0 hu, ag_ready I e0 hu, ag_exp I e0 hu, ag_bar I e0 hu, rd_u7 I e0 hu, rd_u8 I e0 hu, rd_u9 I e0 hu, rd_u10 I e0 hu, rd_u11 I e0 hu, rd_u12 I e0 hu, rd_u13 I e0 hu, rd_u14 I e0 hu, rd_u19 I e0 hu, rd_u20 I e0 hu, ag_state I (mE_rf (h := h)) hu, ag_ready I (mE_rf (h := h)) hu, ag_exp I (mE_rf (h := h)) hu, ag_bar I (mE_rf (h := h)) hu, rd_u7 I (mE_rf (h := h)) hu, rd_u8 I (mE_rf (h := h)) hu, rd_u9 I (mE_rf (h := h)) hu, rd_u10 I (mE_rf (h := h)) hu, rd_u11 I (mE_rf (h := h)) hu, rd_u12 I (mE_rf (h := h)) hu, rd_u13 I (mE_rf (h := h)) hu, rd_u14 I (mE_rf (h := h)) hu, rd_u19 I (mE_rf (h := h)) hu, rd_u20 I (mE_rf (h := h)) hu, q1, refused_0, ew, gI_ne, gI_sL]
    rw [eM]
    refine ⟨⟨e0, rfs_R (h := h) (fun _ _ _ => rfl) (Inv_R I)⟩, rfl, fun _ => by simp only [gL_sI, gL_sL]; exact lg_self _, t, l, Inv_unit I hc (Nat.le_refl l) (by have := I.1.2.2.2.2; omega) hu (fun k i j v a b _ _ => by unfold vis at v; simp (disch := omega) only [gI_ne, gI_eq, gI_sL, gI_nx]) (by simp (disch := omega) only [gI_ne, gI_eq, gI_sL, gI_nx]; exact Inv_l I) (by simp (disch := omega) only [gI_ne, gI_eq, gI_sL, gI_nx]; exact Inv_l2 I) (fun _ _ _ => rfl) rfl (by simp only [cZ_sI, cZ_sL]; omega) ?_ ?_⟩
    · unfold UJ stO
      simp (disch := omega) only [gI_ne, gI_eq, gI_sL, gI_nx]
      rw [g0.1, g0.2]
      refine ⟨⟨⟨k1, k2, k3, k4, k5⟩, k6, k7, k8, ?_, k10⟩, ⟨?_, ?_, ?_⟩, ⟨?_, ?_⟩, ⟨⟨s0, hs0, es0⟩, ⟨0, by omega, by decide⟩, ⟨0, by decide, by decide⟩⟩, ?_, ?_⟩
      all_goals simp
    · intro v hv n
      simp (disch := omega) only [gI_ne, gI_eq, gI_sL, gI_nx]
      exact I.2.2.2.2.2 u v hu hv (fun z => n z.symm)
  · have eL : f_LW_release h (nI u) = ((2 : Int32), nx h) := by simp only [f_LW_release, cu, if_neg vu, if_neg q1]
    have e : mE (nx h) h := mE_sm sm_nx
    have eM : f_MO_release_1 (nx h) (nI u) = (0, sI (nx h) 0 6 0 2) := by simp [f_MO_release_1, m_MO_release_1_34, f_MO_release_1_34, cu, ag_state I e hu, ag_ready I e hu, ag_exp I e hu, ag_bar I e hu, rd_u7 I e hu, rd_u8 I e hu, rd_u9 I e hu, rd_u10 I e hu, rd_u11 I e hu, rd_u12 I e hu, rd_u13 I e hu, rd_u14 I e hu, rd_u19 I e hu, rd_u20 I e hu, q1, refused_0, refused_2, refused_3, refused_4, f_MO_refused1]
    rw [eL]
    show okM (2, nx h) (f_MO_release_1 (nx h) (nI u)) h c
    rw [eM]
    exact okM_rf I hc (by decide)
theorem pr_reserve_0 {h : ev_H} {c t l : Nat} (I : Inv h c t l) (hc : c < 512) {x1 x2 : Int32} (v0 : f_TB_isBelow x1 (gI h 0 0 4) = 0) : okM (f_LW_reserve h x1 x2) (f_MO_reserve_0 ((f_LW_reserve h x1 x2).2) x1 x2) h c := by
  have eL : f_LW_reserve h x1 x2 = (1, nx h) := by simp only [f_LW_reserve, if_pos v0]
  rw [eL]
  exact okM_rf I hc (by decide)
theorem pr_reserve_10 {h : ev_H} {c t l : Nat} (I : Inv h c t l) (hc : c < 512) {x1 x2 : Int32} (v0 : ¬ f_TB_isBelow x1 (gI h 0 0 4) = 0) (v1 : f_TB_isBelow x2 (gI h 0 0 3) = 0) : okM (f_LW_reserve h x1 x2) (f_MO_reserve_10 ((f_LW_reserve h x1 x2).2) x1 x2) h c := by
  have eL : f_LW_reserve h x1 x2 = (1, nx h) := by simp only [f_LW_reserve, if_neg v0, if_pos v1]
  rw [eL]
  exact okM_rf I hc (by decide)
theorem pr_reserve_11 {h : ev_H} {c t l : Nat} (I : Inv h c t l) (hc : c < 512) {p : Nat} (hp : p < cP h) {u : Nat} (hu : u < cU h) : okM (f_LW_reserve h (nI p) (nI u)) (f_MO_reserve_11 ((f_LW_reserve h (nI p) (nI u)).2) (nI p) (nI u)) h c := by
  have l48 := Inv_48 I
  have l10 := Inv_10 I
  have tb := Inv_tb I
  have cp : (nI p).toNatClampNeg = p := nI_clamp (by omega)
  have vp : ¬ f_TB_isBelow (nI p) (gI h 0 0 4) = 0 := by rw [Inv_m I, isB_mk (by omega) hp]; decide
  have sp := nI_pos (n := p) (by omega)
  have cu : (nI u).toNatClampNeg = u := nI_clamp (by omega)
  have vu : ¬ f_TB_isBelow (nI u) (gI h 0 0 3) = 0 := by rw [Inv_n I, isB_mk (by omega) hu]; decide
  have su := nI_pos (n := u) (by omega)
  by_cases q1 : (f_TB_isReady h u) = 0
  · have eL : f_LW_reserve h (nI p) (nI u) = ((2 : Int32), nx h) := by simp only [f_LW_reserve, cp, cu, if_neg vp, if_neg vu, if_pos q1]
    have e : mE (nx h) h := mE_sm sm_nx
    have eM : f_MO_reserve_11 (nx h) (nI p) (nI u) = (0, sI (nx h) 0 6 0 2) := by simp [f_MO_reserve_11, m_MO_reserve_11_49, m_MO_reserve_11_71, m_MO_reserve_11_99, hp_MO_reserve_11_132, f_MO_reserve_11_99, f_MO_reserve_11_71, f_MO_reserve_11_49, cu, ag_state I e hu, ag_ready I e hu, ag_exp I e hu, ag_bar I e hu, rd_u7 I e hu, rd_u8 I e hu, rd_u9 I e hu, rd_u10 I e hu, rd_u11 I e hu, rd_u12 I e hu, rd_u13 I e hu, rd_u14 I e hu, rd_u19 I e hu, rd_u20 I e hu, cp, rd_p22 I e hp, rd_p23 I e hp, rd_p24 I e hp, rd_p25 I e hp, ag_reason I e hp hu, ag_match I e hp hu, clr_1, q1, refused_0, refused_2, refused_3, refused_4, f_MO_refused1]
    rw [eL]
    show okM (2, nx h) (f_MO_reserve_11 (nx h) (nI p) (nI u)) h c
    rw [eM]
    exact okM_rf I hc (by decide)
  · by_cases q2 : (gI h 2 p 0) = 2
    · have eL : f_LW_reserve h (nI p) (nI u) = ((2 : Int32), nx h) := by simp only [f_LW_reserve, cp, cu, if_neg vp, if_neg vu, if_neg q1, if_pos q2]
      have e : mE (nx h) h := mE_sm sm_nx
      have eM : f_MO_reserve_11 (nx h) (nI p) (nI u) = (0, sI (nx h) 0 6 0 2) := by simp [f_MO_reserve_11, m_MO_reserve_11_49, m_MO_reserve_11_71, m_MO_reserve_11_99, hp_MO_reserve_11_132, f_MO_reserve_11_99, f_MO_reserve_11_71, f_MO_reserve_11_49, cu, ag_state I e hu, ag_ready I e hu, ag_exp I e hu, ag_bar I e hu, rd_u7 I e hu, rd_u8 I e hu, rd_u9 I e hu, rd_u10 I e hu, rd_u11 I e hu, rd_u12 I e hu, rd_u13 I e hu, rd_u14 I e hu, rd_u19 I e hu, rd_u20 I e hu, cp, rd_p22 I e hp, rd_p23 I e hp, rd_p24 I e hp, rd_p25 I e hp, ag_reason I e hp hu, ag_match I e hp hu, clr_1, q1, q2, refused_0, refused_2, refused_3, refused_4, f_MO_refused1]
      rw [eL]
      show okM (2, nx h) (f_MO_reserve_11 (nx h) (nI p) (nI u)) h c
      rw [eM]
      exact okM_rf I hc (by decide)
    · by_cases q3 : (f_TB_isCleared h p u (nI u)) = 0
      · have eL : f_LW_reserve h (nI p) (nI u) = ((3 : Int32), nx h) := by simp only [f_LW_reserve, cp, cu, if_neg vp, if_neg vu, if_neg q1, if_neg q2, if_pos q3]
        have e : mE (nx h) h := mE_sm sm_nx
        have eM : f_MO_reserve_11 (nx h) (nI p) (nI u) = (0, sI (nx h) 0 6 0 3) := by simp [f_MO_reserve_11, m_MO_reserve_11_49, m_MO_reserve_11_71, m_MO_reserve_11_99, hp_MO_reserve_11_132, f_MO_reserve_11_99, f_MO_reserve_11_71, f_MO_reserve_11_49, cu, ag_state I e hu, ag_ready I e hu, ag_exp I e hu, ag_bar I e hu, rd_u7 I e hu, rd_u8 I e hu, rd_u9 I e hu, rd_u10 I e hu, rd_u11 I e hu, rd_u12 I e hu, rd_u13 I e hu, rd_u14 I e hu, rd_u19 I e hu, rd_u20 I e hu, cp, rd_p22 I e hp, rd_p23 I e hp, rd_p24 I e hp, rd_p25 I e hp, ag_reason I e hp hu, ag_match I e hp hu, clr_1, q1, q2, q3, refused_0, refused_2, refused_3, refused_4, f_MO_refused1]
        rw [eL]
        show okM (3, nx h) (f_MO_reserve_11 (nx h) (nI p) (nI u)) h c
        rw [eM]
        exact okM_rf I hc (by decide)
      · have eL : f_LW_reserve h (nI p) (nI u) = ((0 : Int32), sL (sI (sI (sI h 1 u 8 1) 1 u 9 (nI p)) 1 u 10 (nI t + 4320)) 0 27 0 ((nI t + 4320).toInt64)) := by simp only [f_LW_reserve, cp, cu, if_neg vp, if_neg vu, if_neg q1, if_neg q2, if_neg q3, f_UN_reserveFor, Inv_t I, gI_eq (show 1 = 1 ∧ u = u ∧ 10 = 10 by omega)]
        rw [eL]
        show okM (0, sL (sI (sI (sI h 1 u 8 1) 1 u 9 (nI p)) 1 u 10 (nI t + 4320)) 0 27 0 ((nI t + 4320).toInt64)) (f_MO_reserve_11 (sL (sI (sI (sI h 1 u 8 1) 1 u 9 (nI p)) 1 u 10 (nI t + 4320)) 0 27 0 ((nI t + 4320).toInt64)) (nI p) (nI u)) h c
        obtain ⟨⟨⟨k1, k2, k3, k4, k5⟩, k6, k7, k8, k9, k10⟩, ⟨s1, s2, s3⟩, ⟨w1, w2⟩, ⟨⟨s0, hs0, es0⟩, ⟨i0, hi0, ei0⟩, ⟨j0, hj0, ej0⟩⟩, z1, z2⟩ := Inv_U I hu
        simp only at k1 k2 k3 k4 k5 k6 k7 k8 k9 k10 s1 s2 s3 w1 w2 es0 ei0 ej0 z1 z2
        have g0 := z1 (stO_01 (g := fun a => gI h 0 a u) (Or.inl (by rw [← s1]; exact rdy_0 q1)))
        have tt : nI t - nI t < 4320 := by rw [Int32.sub_self]; decide
        have e0 : mE (sL (sI (sI (sI h 1 u 8 1) 1 u 9 (nI p)) 1 u 10 (nI t + 4320)) 0 27 0 ((nI t + 4320).toInt64)) h := fun a b x y z => by simp (disch := omega) only [gI_ne, gI_eq, gI_sL, gI_nx]
        have e : mE (sI (sL (sI (sI (sI h 1 u 8 1) 1 u 9 (nI p)) 1 u 10 (nI t + 4320)) 0 27 0 ((nI t + 4320).toInt64)) 0 6 0 0) h := fun a b x y z => by simp (disch := omega) only [gI_ne, gI_eq, gI_sL, gI_nx]
        have eM : f_MO_reserve_11 (sL (sI (sI (sI h 1 u 8 1) 1 u 9 (nI p)) 1 u 10 (nI t + 4320)) 0 27 0 ((nI t + 4320).toInt64)) (nI p) (nI u) = (nI t + 4320, sI (sI (sI (sI (sL (sI (sI (sI h 1 u 8 1) 1 u 9 (nI p)) 1 u 10 (nI t + 4320)) 0 27 0 ((nI t + 4320).toInt64)) 0 6 0 0) 0 15 u 1) 0 16 u (nI p)) 0 17 u (nI t)) := by simp [f_MO_reserve_11, m_MO_reserve_11_49, m_MO_reserve_11_71, m_MO_reserve_11_99, hp_MO_reserve_11_132, f_MO_reserve_11_99, f_MO_reserve_11_71, f_MO_reserve_11_49, cu, ag_state I e hu, ag_ready I e hu, ag_exp I e hu, ag_bar I e hu, rd_u7 I e hu, rd_u8 I e hu, rd_u9 I e hu, rd_u10 I e hu, rd_u11 I e hu, rd_u12 I e hu, rd_u13 I e hu, rd_u14 I e hu, rd_u19 I e hu, rd_u20 I e hu, cp, rd_p22 I e hp, rd_p23 I e hp, rd_p24 I e hp, rd_p25 I e hp, ag_reason I e hp hu, ag_match I e hp hu, ag_state I e0 hu, ag_ready I e0 hu, ag_exp I e0 hu, ag_bar I e0 hu, rd_u7 I e0 hu, rd_u8 I e0 hu, rd_u9 I e0 hu, rd_u10 I e0 hu, rd_u11 I e0 hu, rd_u12 I e0 hu, rd_u13 I e0 hu, rd_u14 I e0 hu, rd_u19 I e0 hu, rd_u20 I e0 hu, rd_p22 I e0 hp, rd_p23 I e0 hp, rd_p24 I e0 hp, rd_p25 I e0 hp, ag_reason I e0 hp hu, ag_match I e0 hp hu, ag_state I (mE_rf (h := h)) hu, ag_ready I (mE_rf (h := h)) hu, ag_exp I (mE_rf (h := h)) hu, ag_bar I (mE_rf (h := h)) hu, rd_u7 I (mE_rf (h := h)) hu, rd_u8 I (mE_rf (h := h)) hu, rd_u9 I (mE_rf (h := h)) hu, rd_u10 I (mE_rf (h := h)) hu, rd_u11 I (mE_rf (h := h)) hu, rd_u12 I (mE_rf (h := h)) hu, rd_u13 I (mE_rf (h := h)) hu, rd_u14 I (mE_rf (h := h)) hu, rd_u19 I (mE_rf (h := h)) hu, rd_u20 I (mE_rf (h := h)) hu, rd_p22 I (mE_rf (h := h)) hp, rd_p23 I (mE_rf (h := h)) hp, rd_p24 I (mE_rf (h := h)) hp, rd_p25 I (mE_rf (h := h)) hp, ag_reason I (mE_rf (h := h)) hp hu, ag_match I (mE_rf (h := h)) hp hu, clr_1, q1, q2, q3, refused_0, gI_ne, gI_sL, Inv_t2 I, clr_1]
        rw [eM]
        refine ⟨⟨e0, rfs_R (h := h) (fun _ _ _ => rfl) (Inv_R I)⟩, rfl, fun _ => by simp only [gL_sI, gL_sL]; exact lg_self _, t, l, Inv_unit I hc (Nat.le_refl l) (by have := I.1.2.2.2.2; omega) hu (fun k i j v a b _ _ => by unfold vis at v; simp (disch := omega) only [gI_ne, gI_eq, gI_sL, gI_nx]) (by simp (disch := omega) only [gI_ne, gI_eq, gI_sL, gI_nx]; exact Inv_l I) (by simp (disch := omega) only [gI_ne, gI_eq, gI_sL, gI_nx]; exact Inv_l2 I) (fun _ _ _ => rfl) rfl (by simp only [cZ_sI, cZ_sL]; omega) ?_ ?_⟩
        · unfold UJ stO
          simp (disch := omega) only [gI_ne, gI_eq, gI_sL, gI_nx]
          rw [g0.1] at s3 ⊢
          rw [g0.2] at k9 ⊢
          refine ⟨⟨⟨k1, k2, k3, k4, k5⟩, k6, k7, k8, k9, k10⟩, ⟨?_, ?_, s3⟩, ⟨?_, ?_⟩, ⟨⟨t, Nat.le_refl t, rfl⟩, ⟨0, by omega, by decide⟩, ⟨1, by decide, by decide⟩⟩, ?_, ?_⟩
          all_goals simp [tt]
        · intro v hv n
          simp (disch := omega) only [gI_ne, gI_eq, gI_sL, gI_nx]
          exact I.2.2.2.2.2 u v hu hv (fun z => n z.symm)
