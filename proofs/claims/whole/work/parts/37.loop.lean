/-! calls that count over the units (by program) -/
theorem rd_c2 {h h1 : ev_H} {c t l : Nat} (I : Inv h c t l) (e : mE h1 h) : (gI h1 0 6 2).toNatClampNeg = cU h := by
  have := Inv_48 I
  rw [e 6 2 (by decide) (by decide) (fun _ => by decide), Inv_n2 I, nI_clamp (by omega)]
theorem rd_c3 {h : ev_H} {c t l : Nat} (I : Inv h c t l) : (gI h 0 0 3).toNatClampNeg = cU h := by
  have := Inv_48 I
  rw [Inv_n I, nI_clamp (by omega)]
theorem lc_count {h h1 : ev_H} {c t l : Nat} (I : Inv h c t l) (e : mE h1 h) {x1 x2 : Int32} : ∀ n, n ≤ cU h → r_MO_count_L40 h1 x1 x2 n = r_TB_count_L33 h x1 x2 n
  | 0, _ => rfl
  | n + 1, q => by
    rw [r_MO_count_L40, r_TB_count_L33, lc_count I e n (by omega), m_MO_count_L40s_77, m_TB_count_L33s_73, rd_u7 I e (by omega), ag_state I e (by omega)]
theorem in_m {x m n : Int32} (q : n.toInt = m.toInt + 1) (hm : 0 ≤ m.toInt) : f_MO_in x (-1) m = if x = -1 then 1 else f_TB_isBelow x n := by
  have e1 : (-1 : Int32).toInt = -1 := by decide
  by_cases a : x = -1
  · rw [if_pos a, a]
    refine in_1 (by decide) ?_
    rw [Int32.le_iff_toInt_le, e1]
    omega
  · rw [if_neg a]
    have a2 : x.toInt ≠ -1 := fun z => a (Int32.toInt_inj.mp (z.trans e1.symm))
    unfold f_MO_in f_TB_isBelow
    have e0 : (0 : Int32).toInt = 0 := by decide
    by_cases b : x < 0
    · rw [if_pos b, if_pos]
      rw [Int32.lt_iff_toInt_lt] at b ⊢
      omega
    · rw [if_neg b, if_neg]
      · have e : (m < x) = (n ≤ x) := by
          rw [Int32.lt_iff_toInt_lt, Int32.le_iff_toInt_le]
          exact propext ⟨fun _ => by omega, fun _ => by omega⟩
        simp only [e]
      · rw [Int32.lt_iff_toInt_lt] at b ⊢
        omega
theorem lc_stock {h h1 : ev_H} {c t l : Nat} (I : Inv h c t l) (e : mE h1 h) {x1 x2 x3 : Int32} (v2 : x2 < 0 → x2 = -1) (v3 : x3 < 0 → x3 = -1) : ∀ n, n ≤ cU h → r_MO_stock_L50 h1 x1 x2 x3 n = r_TB_stock_L75 h x1 x2 x3 (m_TB_stock_10 x1 x2 x3) (m_TB_stock_22 x1 x2 x3) n
  | 0, _ => rfl
  | n + 1, q => by
    rw [r_MO_stock_L50, r_TB_stock_L75, lc_stock I e v2 v3 n (by omega), m_MO_stock_L50s_130, m_MO_stock_L50s_105, m_TB_stock_L75s_142, rd_u7 I e (by omega), rd_u8 I e (by omega), rd_u9 I e (by omega), ag_ready I e (by omega), m_TB_stock_10, m_TB_stock_22]
    have w2 : (x2 < 0) = (x2 = -1) := propext ⟨v2, fun z => by rw [z]; decide⟩
    have w3 : (x3 < 0) = (x3 = -1) := propext ⟨v3, fun z => by rw [z]; decide⟩
    simp only [w2, w3]
    by_cases a1 : gI h 1 n 0 = x1 <;> by_cases a2 : x2 = -1 <;> by_cases a3 : x3 = -1 <;> by_cases a4 : gI h 1 n 1 = x2 <;> by_cases a5 : gI h 1 n 2 = x3 <;> simp [a1, a2, a3, a4, a5]
theorem lc_quar {h : ev_H} {c t l : Nat} (I : Inv h c t l) {x1 x2 x3 : Int32} : ∀ n, n ≤ cU h → r_MO_quarantine_L61 h x1 x2 n = r_TB_quarantine_L54 h x1 x2 x3 n
  | 0, _ => rfl
  | n + 1, q => by
    rw [r_MO_quarantine_L61, r_TB_quarantine_L54, lc_quar (x3 := x3) I n (by omega), m_MO_quarantine_L61s_105, m_TB_quarantine_L54s_96, ag_bar I mE_rf (by omega), ag_state I mE_rf (by omega), f_UN_isInHouse]
    by_cases a1 : gI h 1 n 8 = 0 <;> by_cases a2 : gI h 1 n 8 = 1 <;> by_cases a3 : f_UN_isBarred h n (gI h 0 0 6) = 0 <;> simp [a1, a2, a3]
/-- the marks of barred donors are written -/
theorem Inv_qr {h h' : ev_H} {c t l : Nat} (I : Inv h c t l) (s1 : ∀ k i j, vis k i j → ¬ (k = 0 ∧ i = 0 ∧ j = 6) → ¬ (k = 0 ∧ i = 6 ∧ j = 18) → gI h' k i j = gI h k i j) (s2 : ∀ k i j, gR h' k i j = gR h k i j) (s3 : cs h' = cs h) (hZ : cZ h' ≤ cZ h + 4) (hc : c < 512) (hq : gI h' 0 0 6 = gI h' 0 6 18) : Inv h' (c + 1) t l := by
  obtain ⟨⟨⟨a1, a2, a3, a4, a5, a6⟩, ⟨b1, b2, b3, b4⟩, ⟨d1, d2, d3, d4, d5⟩, ⟨r1, r2⟩, t1, t2, t3⟩, iU, iP, iB, iX, iQ⟩ := I
  have eU := cs_U s3
  have eP := cs_P s3
  have g0 : ∀ j, j ≠ 6 → gI h' 0 0 j = gI h 0 0 j := fun j hj => s1 0 0 j (by unfold vis; omega) (by omega) (by omega)
  have g6 : ∀ j, 1 ≤ j → j ≠ 18 → gI h' 0 6 j = gI h 0 6 j := fun j hj z => s1 0 6 j (by unfold vis; omega) (by omega) (by omega)
  have ga : ∀ a j, 7 ≤ a → a ≤ 26 → gI h' 0 a j = gI h 0 a j := fun a j x y => s1 0 a j (by unfold vis; omega) (by omega) (by omega)
  refine ⟨⟨⟨rfs_R s2 a1, by rw [cs_F s3]; exact a2, by rw [cs_N s3, eP]; exact a3, by rw [eU]; exact a4, by rw [eP]; exact a5, by omega⟩, ?_, ?_, ?_, by omega⟩, fun u hu => ?_, fun p hp => ?_, ?_, fun p hp u hu => ?_, fun u v hu hv n => ?_⟩
  · rw [g0 _ (by decide), g0 _ (by decide), g6 _ (by decide) (by decide), g6 _ (by decide) (by decide), eU, eP]
    exact ⟨b1, b2, b3, b4⟩
  · rw [g0 5 (by decide), g0 7 (by decide), g6 _ (by decide) (by decide), g6 17 (by decide) (by decide)]
    exact ⟨d1, d2, hq, d4, d5⟩
  · rw [eU, eP]
    simp only [s2]
    exact ⟨r1, r2⟩
  · rw [eU] at hu
    exact UJ_congr (Nat.le_refl l) (iU u hu) (fun f => s1 1 u f (by unfold vis; omega) (by omega) (by omega)) (fun a x y => ga a u x (by omega))
  · rw [eP] at hp
    exact PJ_congr (iP p hp) (fun f => s1 2 p f (by unfold vis; omega) (by omega) (by omega)) (fun a x y => ga a p (by omega) (by omega))
  · unfold IvB at iB ⊢
    rw [eU, eP]
    simp only [ga 17 _ (by decide) (by decide), ga 22 _ (by decide) (by decide), ga 23 _ (by decide) (by decide), ga 24 _ (by decide) (by decide), ga 25 _ (by decide) (by decide), ga 26 _ (by decide) (by decide)]
    exact iB
  · rw [eP] at hp
    rw [ga 26 _ (by decide) (by decide), s1 3 p u (by unfold vis; omega) (by omega) (by omega)]
    exact iX p hp u hu
  · rw [eU] at hu hv
    rw [ga 18 _ (by decide) (by decide), ga 18 _ (by decide) (by decide)]
    exact iQ u v hu hv n
theorem ff_quar {h h' : ev_H} (g : ∀ a f, gI h' 1 a f = gI h 1 a f) (gq : gI h' 0 0 6 = gI h 0 0 6) {x1 x2 x3 : Int32} : ∀ n, r_TB_quarantine_L54 h' x1 x2 x3 n = r_TB_quarantine_L54 h x1 x2 x3 n
  | 0 => rfl
  | n + 1 => by
    rw [r_TB_quarantine_L54, r_TB_quarantine_L54, ff_quar g gq n]
    unfold m_TB_quarantine_L54s_96 f_UN_isInHouse f_UN_isBarred
    rw [g, g, gq]
theorem pr_count {h : ev_H} {c t l : Nat} (I : Inv h c t l) (hc : c < 512) {x1 x2 : Int32} : okM (f_LW_count h x1 x2) (f_MO_count ((f_LW_count h x1 x2).2) x1 x2) h c := by
  have l48 := Inv_48 I
  have l10 := Inv_10 I
  have tb := Inv_tb I
  by_cases q1 : (f_TB_isBelow x1 4) = 0
  · have eL : f_LW_count h x1 x2 = ((1 : Int32), nx h) := by simp only [f_LW_count, if_pos q1]
    have e : mE (nx h) h := mE_sm sm_nx
    have eM : f_MO_count (nx h) x1 x2 = (0, sI (nx h) 0 6 0 1) := by simp [f_MO_count, m_MO_count_24, f_MO_count_24, in_below (x := x1) (m := 3) (n := 4) (by decide), in_below (x := x2) (m := 5) (n := 6) (by decide), q1, refused_0, refused_2, refused_3, refused_4, f_MO_refused1]
    rw [eL]
    show okM (1, nx h) (f_MO_count (nx h) x1 x2) h c
    rw [eM]
    exact okM_rf I hc (by decide)
  · by_cases q2 : (f_TB_isBelow x2 6) = 0
    · have eL : f_LW_count h x1 x2 = ((1 : Int32), nx h) := by simp only [f_LW_count, if_neg q1, if_pos q2]
      have e : mE (nx h) h := mE_sm sm_nx
      have eM : f_MO_count (nx h) x1 x2 = (0, sI (nx h) 0 6 0 1) := by simp [f_MO_count, m_MO_count_24, f_MO_count_24, in_below (x := x1) (m := 3) (n := 4) (by decide), in_below (x := x2) (m := 5) (n := 6) (by decide), q1, q2, refused_0, refused_2, refused_3, refused_4, f_MO_refused1]
      rw [eL]
      show okM (1, nx h) (f_MO_count (nx h) x1 x2) h c
      rw [eM]
      exact okM_rf I hc (by decide)
    · have eL : f_LW_count h x1 x2 = ((0 : Int32), sL h 0 27 0 ((r_TB_count_L33 h x1 x2 (gI h 0 0 3).toNatClampNeg).toInt64)) := by simp only [f_LW_count, if_neg q1, if_neg q2]
      rw [eL]
      show okM (0, sL h 0 27 0 ((r_TB_count_L33 h x1 x2 (gI h 0 0 3).toNatClampNeg).toInt64)) (f_MO_count (sL h 0 27 0 ((r_TB_count_L33 h x1 x2 (gI h 0 0 3).toNatClampNeg).toInt64)) x1 x2) h c
      have e : mE (sI (sL h 0 27 0 ((r_TB_count_L33 h x1 x2 (gI h 0 0 3).toNatClampNeg).toInt64)) 0 6 0 0) h := mE_q
      have w : r_MO_count_L40 (sI (sL h 0 27 0 ((r_TB_count_L33 h x1 x2 (gI h 0 0 3).toNatClampNeg).toInt64)) 0 6 0 0) x1 x2 (gI (sI (sL h 0 27 0 ((r_TB_count_L33 h x1 x2 (gI h 0 0 3).toNatClampNeg).toInt64)) 0 6 0 0) 0 6 2).toNatClampNeg = r_TB_count_L33 h x1 x2 (gI h 0 0 3).toNatClampNeg := by
        rw [rd_c2 I e]
        exact (lc_count I e _ (Nat.le_refl _)).trans (by rw [rd_c3 I])
      have eM : f_MO_count (sL h 0 27 0 ((r_TB_count_L33 h x1 x2 (gI h 0 0 3).toNatClampNeg).toInt64)) x1 x2 = (r_TB_count_L33 h x1 x2 (gI h 0 0 3).toNatClampNeg, sI (sL h 0 27 0 ((r_TB_count_L33 h x1 x2 (gI h 0 0 3).toNatClampNeg).toInt64)) 0 6 0 0) := by
        simp only [f_MO_count, m_MO_count_24, f_MO_count_24, q1, q2, in_below (x := x1) (m := 3) (n := 4) (by decide), in_below (x := x2) (m := 5) (n := 6) (by decide), if_false, if_true, refused_0, w]
      rw [eM]
      exact okM_q I hc rfl
theorem pr_stock {h : ev_H} {c t l : Nat} (I : Inv h c t l) (hc : c < 512) {x1 x2 x3 : Int32} : okM (f_LW_stock h x1 x2 x3) (f_MO_stock ((f_LW_stock h x1 x2 x3).2) x1 x2 x3) h c := by
  have l48 := Inv_48 I
  have l10 := Inv_10 I
  have tb := Inv_tb I
  by_cases q1 : (f_TB_isBelow x1 4) = 0
  · have hm : m_MO_stock_33 x1 x2 x3 = 1 := by
      try simp only [m_TB_stock_10, m_TB_stock_22] at q1
      simp [m_MO_stock_33, in_below (x := x1) (m := 3) (n := 4) (by decide), in_m (x := x2) (m := 3) (n := 4) (by decide) (by decide), in_m (x := x3) (m := 1) (n := 2) (by decide) (by decide)]
      (repeat' split) <;> simp_all
    have eL : f_LW_stock h x1 x2 x3 = ((1 : Int32), nx h) := by simp only [f_LW_stock, if_pos q1]
    have e : mE (nx h) h := mE_sm sm_nx
    have eM : f_MO_stock (nx h) x1 x2 x3 = (0, sI (nx h) 0 6 0 1) := by simp [f_MO_stock, hm, f_MO_stock_33, in_below (x := x1) (m := 3) (n := 4) (by decide), in_m (x := x2) (m := 3) (n := 4) (by decide) (by decide), in_m (x := x3) (m := 1) (n := 2) (by decide) (by decide), q1, refused_0, refused_2, refused_3, refused_4, f_MO_refused1]
    rw [eL]
    show okM (1, nx h) (f_MO_stock (nx h) x1 x2 x3) h c
    rw [eM]
    exact okM_rf I hc (by decide)
  · by_cases q2 : (m_TB_stock_10 x1 x2 x3) = 0
    · by_cases q3 : (f_TB_isBelow x2 4) = 0
      · have hm : m_MO_stock_33 x1 x2 x3 = 1 := by
          try simp only [m_TB_stock_10, m_TB_stock_22] at q1 q2 q3
          simp [m_MO_stock_33, in_below (x := x1) (m := 3) (n := 4) (by decide), in_m (x := x2) (m := 3) (n := 4) (by decide) (by decide), in_m (x := x3) (m := 1) (n := 2) (by decide) (by decide)]
          (repeat' split) <;> simp_all
        have eL : f_LW_stock h x1 x2 x3 = ((1 : Int32), nx h) := by simp only [f_LW_stock, if_neg q1, if_pos q2, if_pos q3]
        have e : mE (nx h) h := mE_sm sm_nx
        have eM : f_MO_stock (nx h) x1 x2 x3 = (0, sI (nx h) 0 6 0 1) := by simp [f_MO_stock, hm, f_MO_stock_33, in_below (x := x1) (m := 3) (n := 4) (by decide), in_m (x := x2) (m := 3) (n := 4) (by decide) (by decide), in_m (x := x3) (m := 1) (n := 2) (by decide) (by decide), q1, q2, q3, refused_0, refused_2, refused_3, refused_4, f_MO_refused1]
        rw [eL]
        show okM (1, nx h) (f_MO_stock (nx h) x1 x2 x3) h c
        rw [eM]
        exact okM_rf I hc (by decide)
      · by_cases q4 : (m_TB_stock_22 x1 x2 x3) = 0
        · by_cases q5 : (f_TB_isBelow x3 2) = 0
          · have hm : m_MO_stock_33 x1 x2 x3 = 1 := by
              try simp only [m_TB_stock_10, m_TB_stock_22] at q1 q2 q3 q4 q5
              simp [m_MO_stock_33, in_below (x := x1) (m := 3) (n := 4) (by decide), in_m (x := x2) (m := 3) (n := 4) (by decide) (by decide), in_m (x := x3) (m := 1) (n := 2) (by decide) (by decide)]
              (repeat' split) <;> simp_all
            have eL : f_LW_stock h x1 x2 x3 = ((1 : Int32), nx h) := by simp only [f_LW_stock, if_neg q1, if_pos q2, if_neg q3, if_pos q4, if_pos q5]
            have e : mE (nx h) h := mE_sm sm_nx
            have eM : f_MO_stock (nx h) x1 x2 x3 = (0, sI (nx h) 0 6 0 1) := by simp [f_MO_stock, hm, f_MO_stock_33, in_below (x := x1) (m := 3) (n := 4) (by decide), in_m (x := x2) (m := 3) (n := 4) (by decide) (by decide), in_m (x := x3) (m := 1) (n := 2) (by decide) (by decide), q1, q2, q3, q4, q5, refused_0, refused_2, refused_3, refused_4, f_MO_refused1]
            rw [eL]
            show okM (1, nx h) (f_MO_stock (nx h) x1 x2 x3) h c
            rw [eM]
            exact okM_rf I hc (by decide)
          · have eL : f_LW_stock h x1 x2 x3 = ((0 : Int32), sL h 0 27 0 ((r_TB_stock_L75 h x1 x2 x3 (m_TB_stock_10 x1 x2 x3) (m_TB_stock_22 x1 x2 x3) (gI h 0 0 3).toNatClampNeg).toInt64)) := by simp only [f_LW_stock, if_neg q1, if_pos q2, if_neg q3, if_pos q4, if_neg q5]
            rw [eL]
            show okM (0, sL h 0 27 0 ((r_TB_stock_L75 h x1 x2 x3 (m_TB_stock_10 x1 x2 x3) (m_TB_stock_22 x1 x2 x3) (gI h 0 0 3).toNatClampNeg).toInt64)) (f_MO_stock (sL h 0 27 0 ((r_TB_stock_L75 h x1 x2 x3 (m_TB_stock_10 x1 x2 x3) (m_TB_stock_22 x1 x2 x3) (gI h 0 0 3).toNatClampNeg).toInt64)) x1 x2 x3) h c
            have v2 : x2 < 0 → x2 = -1 := fun z => by
              first
              | (by_cases y : x2 = -1
                 · exact y
                 · rw [m_TB_stock_10, if_neg y] at q2; exact absurd rfl q2)
              | exact absurd z (isB_0 q3)
            have v3 : x3 < 0 → x3 = -1 := fun z => by
              by_cases y : x3 = -1
              · exact y
              · first
                | (rw [m_TB_stock_22, if_neg y] at q5; exact absurd rfl q5)
                | exact absurd z (isB_0 q5)
            have e : mE (sI (sL h 0 27 0 ((r_TB_stock_L75 h x1 x2 x3 (m_TB_stock_10 x1 x2 x3) (m_TB_stock_22 x1 x2 x3) (gI h 0 0 3).toNatClampNeg).toInt64)) 0 6 0 0) h := mE_q
            have w : r_MO_stock_L50 (sI (sL h 0 27 0 ((r_TB_stock_L75 h x1 x2 x3 (m_TB_stock_10 x1 x2 x3) (m_TB_stock_22 x1 x2 x3) (gI h 0 0 3).toNatClampNeg).toInt64)) 0 6 0 0) x1 x2 x3 (gI (sI (sL h 0 27 0 ((r_TB_stock_L75 h x1 x2 x3 (m_TB_stock_10 x1 x2 x3) (m_TB_stock_22 x1 x2 x3) (gI h 0 0 3).toNatClampNeg).toInt64)) 0 6 0 0) 0 6 2).toNatClampNeg = r_TB_stock_L75 h x1 x2 x3 (m_TB_stock_10 x1 x2 x3) (m_TB_stock_22 x1 x2 x3) (gI h 0 0 3).toNatClampNeg := by
              rw [rd_c2 I e]
              exact (lc_stock I e v2 v3 _ (Nat.le_refl _)).trans (by rw [rd_c3 I])
            have hm : m_MO_stock_33 x1 x2 x3 = 0 := by
              try simp only [m_TB_stock_10, m_TB_stock_22] at q2 q3 q4 q5
              simp [m_MO_stock_33, in_below (x := x1) (m := 3) (n := 4) (by decide), in_m (x := x2) (m := 3) (n := 4) (by decide) (by decide), in_m (x := x3) (m := 1) (n := 2) (by decide) (by decide)]
              (repeat' split) <;> simp_all
            have eM : f_MO_stock (sL h 0 27 0 ((r_TB_stock_L75 h x1 x2 x3 (m_TB_stock_10 x1 x2 x3) (m_TB_stock_22 x1 x2 x3) (gI h 0 0 3).toNatClampNeg).toInt64)) x1 x2 x3 = (r_TB_stock_L75 h x1 x2 x3 (m_TB_stock_10 x1 x2 x3) (m_TB_stock_22 x1 x2 x3) (gI h 0 0 3).toNatClampNeg, sI (sL h 0 27 0 ((r_TB_stock_L75 h x1 x2 x3 (m_TB_stock_10 x1 x2 x3) (m_TB_stock_22 x1 x2 x3) (gI h 0 0 3).toNatClampNeg).toInt64)) 0 6 0 0) := by
              simp only [f_MO_stock, f_MO_stock_33, hm, if_false, if_true, refused_0, w]
            rw [eM]
            exact okM_q I hc rfl
        · have eL : f_LW_stock h x1 x2 x3 = ((0 : Int32), sL h 0 27 0 ((r_TB_stock_L75 h x1 x2 x3 (m_TB_stock_10 x1 x2 x3) (m_TB_stock_22 x1 x2 x3) (gI h 0 0 3).toNatClampNeg).toInt64)) := by simp only [f_LW_stock, if_neg q1, if_pos q2, if_neg q3, if_neg q4]
          rw [eL]
          show okM (0, sL h 0 27 0 ((r_TB_stock_L75 h x1 x2 x3 (m_TB_stock_10 x1 x2 x3) (m_TB_stock_22 x1 x2 x3) (gI h 0 0 3).toNatClampNeg).toInt64)) (f_MO_stock (sL h 0 27 0 ((r_TB_stock_L75 h x1 x2 x3 (m_TB_stock_10 x1 x2 x3) (m_TB_stock_22 x1 x2 x3) (gI h 0 0 3).toNatClampNeg).toInt64)) x1 x2 x3) h c
          have v2 : x2 < 0 → x2 = -1 := fun z => by
            first
            | (by_cases y : x2 = -1
               · exact y
               · rw [m_TB_stock_10, if_neg y] at q2; exact absurd rfl q2)
            | exact absurd z (isB_0 q3)
          have v3 : x3 < 0 → x3 = -1 := fun z => by
            by_cases y : x3 = -1
            · exact y
            · first
              | (rw [m_TB_stock_22, if_neg y] at q4; exact absurd rfl q4)
              | exact absurd z (isB_0 q4)
          have e : mE (sI (sL h 0 27 0 ((r_TB_stock_L75 h x1 x2 x3 (m_TB_stock_10 x1 x2 x3) (m_TB_stock_22 x1 x2 x3) (gI h 0 0 3).toNatClampNeg).toInt64)) 0 6 0 0) h := mE_q
          have w : r_MO_stock_L50 (sI (sL h 0 27 0 ((r_TB_stock_L75 h x1 x2 x3 (m_TB_stock_10 x1 x2 x3) (m_TB_stock_22 x1 x2 x3) (gI h 0 0 3).toNatClampNeg).toInt64)) 0 6 0 0) x1 x2 x3 (gI (sI (sL h 0 27 0 ((r_TB_stock_L75 h x1 x2 x3 (m_TB_stock_10 x1 x2 x3) (m_TB_stock_22 x1 x2 x3) (gI h 0 0 3).toNatClampNeg).toInt64)) 0 6 0 0) 0 6 2).toNatClampNeg = r_TB_stock_L75 h x1 x2 x3 (m_TB_stock_10 x1 x2 x3) (m_TB_stock_22 x1 x2 x3) (gI h 0 0 3).toNatClampNeg := by
            rw [rd_c2 I e]
            exact (lc_stock I e v2 v3 _ (Nat.le_refl _)).trans (by rw [rd_c3 I])
          have hm : m_MO_stock_33 x1 x2 x3 = 0 := by
            try simp only [m_TB_stock_10, m_TB_stock_22] at q2 q3 q4
            simp [m_MO_stock_33, in_below (x := x1) (m := 3) (n := 4) (by decide), in_m (x := x2) (m := 3) (n := 4) (by decide) (by decide), in_m (x := x3) (m := 1) (n := 2) (by decide) (by decide)]
            (repeat' split) <;> simp_all
          have eM : f_MO_stock (sL h 0 27 0 ((r_TB_stock_L75 h x1 x2 x3 (m_TB_stock_10 x1 x2 x3) (m_TB_stock_22 x1 x2 x3) (gI h 0 0 3).toNatClampNeg).toInt64)) x1 x2 x3 = (r_TB_stock_L75 h x1 x2 x3 (m_TB_stock_10 x1 x2 x3) (m_TB_stock_22 x1 x2 x3) (gI h 0 0 3).toNatClampNeg, sI (sL h 0 27 0 ((r_TB_stock_L75 h x1 x2 x3 (m_TB_stock_10 x1 x2 x3) (m_TB_stock_22 x1 x2 x3) (gI h 0 0 3).toNatClampNeg).toInt64)) 0 6 0 0) := by
            simp only [f_MO_stock, f_MO_stock_33, hm, if_false, if_true, refused_0, w]
          rw [eM]
          exact okM_q I hc rfl
    · by_cases q6 : (m_TB_stock_22 x1 x2 x3) = 0
      · by_cases q7 : (f_TB_isBelow x3 2) = 0
        · have hm : m_MO_stock_33 x1 x2 x3 = 1 := by
            try simp only [m_TB_stock_10, m_TB_stock_22] at q1 q2 q6 q7
            simp [m_MO_stock_33, in_below (x := x1) (m := 3) (n := 4) (by decide), in_m (x := x2) (m := 3) (n := 4) (by decide) (by decide), in_m (x := x3) (m := 1) (n := 2) (by decide) (by decide)]
            (repeat' split) <;> simp_all
          have eL : f_LW_stock h x1 x2 x3 = ((1 : Int32), nx h) := by simp only [f_LW_stock, if_neg q1, if_neg q2, if_pos q6, if_pos q7]
          have e : mE (nx h) h := mE_sm sm_nx
          have eM : f_MO_stock (nx h) x1 x2 x3 = (0, sI (nx h) 0 6 0 1) := by simp [f_MO_stock, hm, f_MO_stock_33, in_below (x := x1) (m := 3) (n := 4) (by decide), in_m (x := x2) (m := 3) (n := 4) (by decide) (by decide), in_m (x := x3) (m := 1) (n := 2) (by decide) (by decide), q1, q2, q6, q7, refused_0, refused_2, refused_3, refused_4, f_MO_refused1]
          rw [eL]
          show okM (1, nx h) (f_MO_stock (nx h) x1 x2 x3) h c
          rw [eM]
          exact okM_rf I hc (by decide)
        · have eL : f_LW_stock h x1 x2 x3 = ((0 : Int32), sL h 0 27 0 ((r_TB_stock_L75 h x1 x2 x3 (m_TB_stock_10 x1 x2 x3) (m_TB_stock_22 x1 x2 x3) (gI h 0 0 3).toNatClampNeg).toInt64)) := by simp only [f_LW_stock, if_neg q1, if_neg q2, if_pos q6, if_neg q7]
          rw [eL]
          show okM (0, sL h 0 27 0 ((r_TB_stock_L75 h x1 x2 x3 (m_TB_stock_10 x1 x2 x3) (m_TB_stock_22 x1 x2 x3) (gI h 0 0 3).toNatClampNeg).toInt64)) (f_MO_stock (sL h 0 27 0 ((r_TB_stock_L75 h x1 x2 x3 (m_TB_stock_10 x1 x2 x3) (m_TB_stock_22 x1 x2 x3) (gI h 0 0 3).toNatClampNeg).toInt64)) x1 x2 x3) h c
          have v2 : x2 < 0 → x2 = -1 := fun z => by
            first
            | (by_cases y : x2 = -1
               · exact y
               · rw [m_TB_stock_10, if_neg y] at q2; exact absurd rfl q2)
            | exact absurd z (isB_0 q3)
          have v3 : x3 < 0 → x3 = -1 := fun z => by
            by_cases y : x3 = -1
            · exact y
            · first
              | (rw [m_TB_stock_22, if_neg y] at q7; exact absurd rfl q7)
              | exact absurd z (isB_0 q7)
          have e : mE (sI (sL h 0 27 0 ((r_TB_stock_L75 h x1 x2 x3 (m_TB_stock_10 x1 x2 x3) (m_TB_stock_22 x1 x2 x3) (gI h 0 0 3).toNatClampNeg).toInt64)) 0 6 0 0) h := mE_q
          have w : r_MO_stock_L50 (sI (sL h 0 27 0 ((r_TB_stock_L75 h x1 x2 x3 (m_TB_stock_10 x1 x2 x3) (m_TB_stock_22 x1 x2 x3) (gI h 0 0 3).toNatClampNeg).toInt64)) 0 6 0 0) x1 x2 x3 (gI (sI (sL h 0 27 0 ((r_TB_stock_L75 h x1 x2 x3 (m_TB_stock_10 x1 x2 x3) (m_TB_stock_22 x1 x2 x3) (gI h 0 0 3).toNatClampNeg).toInt64)) 0 6 0 0) 0 6 2).toNatClampNeg = r_TB_stock_L75 h x1 x2 x3 (m_TB_stock_10 x1 x2 x3) (m_TB_stock_22 x1 x2 x3) (gI h 0 0 3).toNatClampNeg := by
            rw [rd_c2 I e]
            exact (lc_stock I e v2 v3 _ (Nat.le_refl _)).trans (by rw [rd_c3 I])
          have hm : m_MO_stock_33 x1 x2 x3 = 0 := by
            try simp only [m_TB_stock_10, m_TB_stock_22] at q2 q6 q7
            simp [m_MO_stock_33, in_below (x := x1) (m := 3) (n := 4) (by decide), in_m (x := x2) (m := 3) (n := 4) (by decide) (by decide), in_m (x := x3) (m := 1) (n := 2) (by decide) (by decide)]
            (repeat' split) <;> simp_all
          have eM : f_MO_stock (sL h 0 27 0 ((r_TB_stock_L75 h x1 x2 x3 (m_TB_stock_10 x1 x2 x3) (m_TB_stock_22 x1 x2 x3) (gI h 0 0 3).toNatClampNeg).toInt64)) x1 x2 x3 = (r_TB_stock_L75 h x1 x2 x3 (m_TB_stock_10 x1 x2 x3) (m_TB_stock_22 x1 x2 x3) (gI h 0 0 3).toNatClampNeg, sI (sL h 0 27 0 ((r_TB_stock_L75 h x1 x2 x3 (m_TB_stock_10 x1 x2 x3) (m_TB_stock_22 x1 x2 x3) (gI h 0 0 3).toNatClampNeg).toInt64)) 0 6 0 0) := by
            simp only [f_MO_stock, f_MO_stock_33, hm, if_false, if_true, refused_0, w]
          rw [eM]
          exact okM_q I hc rfl
      · have eL : f_LW_stock h x1 x2 x3 = ((0 : Int32), sL h 0 27 0 ((r_TB_stock_L75 h x1 x2 x3 (m_TB_stock_10 x1 x2 x3) (m_TB_stock_22 x1 x2 x3) (gI h 0 0 3).toNatClampNeg).toInt64)) := by simp only [f_LW_stock, if_neg q1, if_neg q2, if_neg q6]
        rw [eL]
        show okM (0, sL h 0 27 0 ((r_TB_stock_L75 h x1 x2 x3 (m_TB_stock_10 x1 x2 x3) (m_TB_stock_22 x1 x2 x3) (gI h 0 0 3).toNatClampNeg).toInt64)) (f_MO_stock (sL h 0 27 0 ((r_TB_stock_L75 h x1 x2 x3 (m_TB_stock_10 x1 x2 x3) (m_TB_stock_22 x1 x2 x3) (gI h 0 0 3).toNatClampNeg).toInt64)) x1 x2 x3) h c
        have v2 : x2 < 0 → x2 = -1 := fun z => by
          first
          | (by_cases y : x2 = -1
             · exact y
             · rw [m_TB_stock_10, if_neg y] at q2; exact absurd rfl q2)
          | exact absurd z (isB_0 q3)
        have v3 : x3 < 0 → x3 = -1 := fun z => by
          by_cases y : x3 = -1
          · exact y
          · first
            | (rw [m_TB_stock_22, if_neg y] at q6; exact absurd rfl q6)
            | exact absurd z (isB_0 q6)
        have e : mE (sI (sL h 0 27 0 ((r_TB_stock_L75 h x1 x2 x3 (m_TB_stock_10 x1 x2 x3) (m_TB_stock_22 x1 x2 x3) (gI h 0 0 3).toNatClampNeg).toInt64)) 0 6 0 0) h := mE_q
        have w : r_MO_stock_L50 (sI (sL h 0 27 0 ((r_TB_stock_L75 h x1 x2 x3 (m_TB_stock_10 x1 x2 x3) (m_TB_stock_22 x1 x2 x3) (gI h 0 0 3).toNatClampNeg).toInt64)) 0 6 0 0) x1 x2 x3 (gI (sI (sL h 0 27 0 ((r_TB_stock_L75 h x1 x2 x3 (m_TB_stock_10 x1 x2 x3) (m_TB_stock_22 x1 x2 x3) (gI h 0 0 3).toNatClampNeg).toInt64)) 0 6 0 0) 0 6 2).toNatClampNeg = r_TB_stock_L75 h x1 x2 x3 (m_TB_stock_10 x1 x2 x3) (m_TB_stock_22 x1 x2 x3) (gI h 0 0 3).toNatClampNeg := by
          rw [rd_c2 I e]
          exact (lc_stock I e v2 v3 _ (Nat.le_refl _)).trans (by rw [rd_c3 I])
        have hm : m_MO_stock_33 x1 x2 x3 = 0 := by
          try simp only [m_TB_stock_10, m_TB_stock_22] at q2 q6
          simp [m_MO_stock_33, in_below (x := x1) (m := 3) (n := 4) (by decide), in_m (x := x2) (m := 3) (n := 4) (by decide) (by decide), in_m (x := x3) (m := 1) (n := 2) (by decide) (by decide)]
          (repeat' split) <;> simp_all
        have eM : f_MO_stock (sL h 0 27 0 ((r_TB_stock_L75 h x1 x2 x3 (m_TB_stock_10 x1 x2 x3) (m_TB_stock_22 x1 x2 x3) (gI h 0 0 3).toNatClampNeg).toInt64)) x1 x2 x3 = (r_TB_stock_L75 h x1 x2 x3 (m_TB_stock_10 x1 x2 x3) (m_TB_stock_22 x1 x2 x3) (gI h 0 0 3).toNatClampNeg, sI (sL h 0 27 0 ((r_TB_stock_L75 h x1 x2 x3 (m_TB_stock_10 x1 x2 x3) (m_TB_stock_22 x1 x2 x3) (gI h 0 0 3).toNatClampNeg).toInt64)) 0 6 0 0) := by
          simp only [f_MO_stock, f_MO_stock_33, hm, if_false, if_true, refused_0, w]
        rw [eM]
        exact okM_q I hc rfl
theorem pr_quarantine {h : ev_H} {c t l : Nat} (I : Inv h c t l) (hc : c < 512) {x1 x2 : Int32} : okM (f_LW_quarantine h x1 x2) (f_MO_quarantine ((f_LW_quarantine h x1 x2).2) x1 x2) h c := by
  have l48 := Inv_48 I
  have l10 := Inv_10 I
  have tb := Inv_tb I
  by_cases q1 : (f_TB_isBelow x1 16) = 0
  · have eL : f_LW_quarantine h x1 x2 = ((1 : Int32), nx h) := by simp only [f_LW_quarantine, if_pos q1]
    have e : mE (nx h) h := mE_sm sm_nx
    have eM : f_MO_quarantine (nx h) x1 x2 = (0, sI (nx h) 0 6 0 1) := by simp [f_MO_quarantine, m_MO_quarantine_16, m_MO_quarantine_53, f_MO_quarantine_53, f_MO_quarantine_16, in_below (x := x1) (m := 15) (n := 16) (by decide), q1, refused_0, refused_2, refused_3, refused_4, f_MO_refused1]
    rw [eL]
    show okM (1, nx h) (f_MO_quarantine (nx h) x1 x2) h c
    rw [eM]
    exact okM_rf I hc (by decide)
  · have eL : f_LW_quarantine h x1 x2 = ((0 : Int32), sL (sI h 0 0 6 (m_TB_quarantine_45 h x1 x2)) 0 27 0 ((r_TB_quarantine_L54 (sI h 0 0 6 (m_TB_quarantine_45 h x1 x2)) x1 x2 (1 <<< (x1 &&& 31)) (gI (sI h 0 0 6 (m_TB_quarantine_45 h x1 x2)) 0 0 3).toNatClampNeg).toInt64)) := by simp only [f_LW_quarantine, if_neg q1]
    rw [eL]
    show okM (0, sL (sI h 0 0 6 (m_TB_quarantine_45 h x1 x2)) 0 27 0 ((r_TB_quarantine_L54 (sI h 0 0 6 (m_TB_quarantine_45 h x1 x2)) x1 x2 (1 <<< (x1 &&& 31)) (gI (sI h 0 0 6 (m_TB_quarantine_45 h x1 x2)) 0 0 3).toNatClampNeg).toInt64)) (f_MO_quarantine (sL (sI h 0 0 6 (m_TB_quarantine_45 h x1 x2)) 0 27 0 ((r_TB_quarantine_L54 (sI h 0 0 6 (m_TB_quarantine_45 h x1 x2)) x1 x2 (1 <<< (x1 &&& 31)) (gI (sI h 0 0 6 (m_TB_quarantine_45 h x1 x2)) 0 0 3).toNatClampNeg).toInt64)) x1 x2) h c
    have e0 : mE (sL (sI h 0 0 6 (m_TB_quarantine_45 h x1 x2)) 0 27 0 ((r_TB_quarantine_L54 (sI h 0 0 6 (m_TB_quarantine_45 h x1 x2)) x1 x2 (1 <<< (x1 &&& 31)) (gI (sI h 0 0 6 (m_TB_quarantine_45 h x1 x2)) 0 0 3).toNatClampNeg).toInt64)) h := fun a b x y z => by simp (disch := omega) only [gI_ne, gI_eq, gI_sL, gI_nx]
    have e : mE (sI (sL (sI h 0 0 6 (m_TB_quarantine_45 h x1 x2)) 0 27 0 ((r_TB_quarantine_L54 (sI h 0 0 6 (m_TB_quarantine_45 h x1 x2)) x1 x2 (1 <<< (x1 &&& 31)) (gI (sI h 0 0 6 (m_TB_quarantine_45 h x1 x2)) 0 0 3).toNatClampNeg).toInt64)) 0 6 0 0) h := fun a b x y z => by simp (disch := omega) only [gI_ne, gI_eq, gI_sL, gI_nx]
    have I' : Inv (sI (sI (sL (sI h 0 0 6 (m_TB_quarantine_45 h x1 x2)) 0 27 0 ((r_TB_quarantine_L54 (sI h 0 0 6 (m_TB_quarantine_45 h x1 x2)) x1 x2 (1 <<< (x1 &&& 31)) (gI (sI h 0 0 6 (m_TB_quarantine_45 h x1 x2)) 0 0 3).toNatClampNeg).toInt64)) 0 6 0 0) 0 6 18 (m_TB_quarantine_45 h x1 x2)) (c + 1) t l := Inv_qr I (fun k i j v a b => by unfold vis at v; simp (disch := omega) only [gI_ne, gI_eq, gI_sL, gI_nx]) (fun _ _ _ => rfl) rfl (by simp only [cZ_sI, cZ_sL]; omega) hc (by simp (disch := omega) only [gI_ne, gI_eq, gI_sL, gI_nx])
    have eq : m_MO_quarantine_53 (sL (sI h 0 0 6 (m_TB_quarantine_45 h x1 x2)) 0 27 0 ((r_TB_quarantine_L54 (sI h 0 0 6 (m_TB_quarantine_45 h x1 x2)) x1 x2 (1 <<< (x1 &&& 31)) (gI (sI h 0 0 6 (m_TB_quarantine_45 h x1 x2)) 0 0 3).toNatClampNeg).toInt64)) x1 x2 = (m_TB_quarantine_45 h x1 x2) := by
      simp only [m_MO_quarantine_53, m_MO_quarantine_16, in_below (x := x1) (m := 15) (n := 16) (by decide), q1, if_false, refused_0, e 6 18 (by decide) (by decide) (fun _ => by decide), ← Inv_q I]
      rfl
    have w : r_MO_quarantine_L61 (sI (sI (sL (sI h 0 0 6 (m_TB_quarantine_45 h x1 x2)) 0 27 0 ((r_TB_quarantine_L54 (sI h 0 0 6 (m_TB_quarantine_45 h x1 x2)) x1 x2 (1 <<< (x1 &&& 31)) (gI (sI h 0 0 6 (m_TB_quarantine_45 h x1 x2)) 0 0 3).toNatClampNeg).toInt64)) 0 6 0 0) 0 6 18 (m_TB_quarantine_45 h x1 x2)) x1 x2 (gI (sI (sI (sL (sI h 0 0 6 (m_TB_quarantine_45 h x1 x2)) 0 27 0 ((r_TB_quarantine_L54 (sI h 0 0 6 (m_TB_quarantine_45 h x1 x2)) x1 x2 (1 <<< (x1 &&& 31)) (gI (sI h 0 0 6 (m_TB_quarantine_45 h x1 x2)) 0 0 3).toNatClampNeg).toInt64)) 0 6 0 0) 0 6 18 (m_TB_quarantine_45 h x1 x2)) 0 6 2).toNatClampNeg = r_TB_quarantine_L54 (sI h 0 0 6 (m_TB_quarantine_45 h x1 x2)) x1 x2 (1 <<< (x1 &&& 31)) (gI (sI h 0 0 6 (m_TB_quarantine_45 h x1 x2)) 0 0 3).toNatClampNeg := by
      have cc : (gI (sI h 0 0 6 (m_TB_quarantine_45 h x1 x2)) 0 0 3).toNatClampNeg = cU h := by rw [gI_ne (by omega)]; exact rd_c3 I
      rw [rd_c2 I' mE_rf]
      show r_MO_quarantine_L61 _ x1 x2 (cU h) = _
      rw [lc_quar I' (x3 := 1 <<< (x1 &&& 31)) (cU h) (Nat.le_refl _)]
      exact (ff_quar (h := sI h 0 0 6 (m_TB_quarantine_45 h x1 x2)) (fun a f => by simp (disch := omega) only [gI_ne, gI_eq, gI_sL, gI_nx]) (by simp (disch := omega) only [gI_ne, gI_eq, gI_sL, gI_nx]) _).trans (by rw [cc])
    have eM : f_MO_quarantine (sL (sI h 0 0 6 (m_TB_quarantine_45 h x1 x2)) 0 27 0 ((r_TB_quarantine_L54 (sI h 0 0 6 (m_TB_quarantine_45 h x1 x2)) x1 x2 (1 <<< (x1 &&& 31)) (gI (sI h 0 0 6 (m_TB_quarantine_45 h x1 x2)) 0 0 3).toNatClampNeg).toInt64)) x1 x2 = (r_TB_quarantine_L54 (sI h 0 0 6 (m_TB_quarantine_45 h x1 x2)) x1 x2 (1 <<< (x1 &&& 31)) (gI (sI h 0 0 6 (m_TB_quarantine_45 h x1 x2)) 0 0 3).toNatClampNeg, sI (sI (sL (sI h 0 0 6 (m_TB_quarantine_45 h x1 x2)) 0 27 0 ((r_TB_quarantine_L54 (sI h 0 0 6 (m_TB_quarantine_45 h x1 x2)) x1 x2 (1 <<< (x1 &&& 31)) (gI (sI h 0 0 6 (m_TB_quarantine_45 h x1 x2)) 0 0 3).toNatClampNeg).toInt64)) 0 6 0 0) 0 6 18 (m_TB_quarantine_45 h x1 x2)) := by
      simp only [f_MO_quarantine, f_MO_quarantine_16, f_MO_quarantine_53, eq, m_MO_quarantine_16, in_below (x := x1) (m := 15) (n := 16) (by decide), q1, if_false, if_true, refused_0, w]
    rw [eM]
    exact ⟨⟨e0, rfs_R (h := h) (fun _ _ _ => rfl) (Inv_R I)⟩, rfl, fun _ => by simp only [gL_sI, gL_sL]; exact lg_self _, t, l, I'⟩
