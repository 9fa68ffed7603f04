/-! a new unit (by program) -/
theorem kp_o {A : ev_H} {kd gr rh dn ex mk pr ab : Int32} {k i j : Nat} (q : ¬ (k = 1 ∧ i = cU A)) (q2 : ¬ (k = 0 ∧ i = 0 ∧ j = 3)) : gI (kpH A kd gr rh dn ex mk pr ab) k i j = gI A k i j := by
  unfold kpH f_UN_init
  simp (disch := omega) only [gI_ne, gI_eq, gI_sL, gI_sR, gI_nx, gI_w1n, gI_w1e]
theorem kp_R {A : ev_H} {kd gr rh dn ex mk pr ab : Int32} {k i j : Nat} (q : ¬ (k = 0 ∧ i = 1 ∧ j = cU A)) (q2 : ¬ k = 1) : gR (kpH A kd gr rh dn ex mk pr ab) k i j = gR A k i j := by
  unfold kpH f_UN_init
  rw [gR_sI, gR_ne q]
  simp only [gR_sI]
  exact gR_nwn (fun z => q2 z.1)
theorem mg_new {A B B' : ev_H} {c t l : Nat} (I : Inv (mg A B) c t l) (hn : cU A < 48) {kd gr rh dn ex mk pr ab : Int32}
    (b1 : ∀ i j, 6 ≤ i → i ≤ 26 → (i = 6 → 1 ≤ j ∧ j ≠ 2) → ¬ (7 ≤ i ∧ i ≤ 20 ∧ j = cU A ∧ i ≠ 17) → gI B' 0 i j = gI B 0 i j) (b2 : gI B' 0 6 2 = nI (cU A + 1))
    (b7 : gI B' 0 7 (cU A) = kd) (b8 : gI B' 0 8 (cU A) = gr) (b9 : gI B' 0 9 (cU A) = rh) (b14 : gI B' 0 14 (cU A) = dn) (b13 : gI B' 0 13 (cU A) = ex) (b12 : gI B' 0 12 (cU A) = mk) (b10 : gI B' 0 10 (cU A) = pr) (b11 : gI B' 0 11 (cU A) = ab)
    (b15 : gI B' 0 15 (cU A) = 0) (b18 : gI B' 0 18 (cU A) = 0) (b19 : gI B' 0 19 (cU A) = 0) (b20 : gI B' 0 20 (cU A) = 0) (hZ : cZ A + 1 ≤ 28 + 4 * c) : Inv (mg (kpH A kd gr rh dn ex mk pr ab) B') c t l := by
  have e17 : gI B' 0 17 (cU A) = 0 := by
    rw [b1 17 _ (by decide) (by decide) (by omega) (by omega)]
    have z := I.2.2.2.1.1 (cU A) (Nat.le_refl _) hn
    rw [mg_m (by decide) (by decide)] at z
    exact z
  refine Inv_new I hn (fun k i j v q1 q2 q3 q4 => ?_) (fun k i j q1 q2 => kp_R q1 q2) ?_ rfl hZ ?_ ?_ ?_ ?_
  · by_cases z : k = 0 ∧ 6 ≤ i ∧ i ≤ 26
    · obtain ⟨rfl, a, b⟩ := z
      rw [mg_m a b, mg_m a b]
      have q2' : ¬ (0 = 0 ∧ 7 ≤ i ∧ i ≤ 20 ∧ j = cU A) := q2
      exact b1 i j a b (fun y => by unfold vis at v; omega) (by omega)
    · rw [mg_c z, mg_c z]
      exact kp_o q1 q3
  · show gR (kpH A kd gr rh dn ex mk pr ab) 0 1 (cU A) = vR 1 (cU A)
    unfold kpH
    rw [gR_sI, gR_eq ⟨rfl, rfl, rfl⟩]
  · rw [mg_c (by omega)]
    unfold kpH
    exact gI_eq ⟨rfl, rfl, rfl⟩
  · rw [mg_m (by decide) (by decide)]
    exact b2
  · show UJ t l (fun f => gI (mg (kpH A kd gr rh dn ex mk pr ab) B') 1 (cU A) f) (fun a => gI (mg (kpH A kd gr rh dn ex mk pr ab) B') 0 a (cU A))
    refine UJ_congr (f := fun f => gI (kpH A kd gr rh dn ex mk pr ab) 1 (cU A) f) (g := fun a => gI B' 0 a (cU A)) (Nat.le_refl l) ?_ (fun a => mg_c (by omega)) (fun a x y => mg_m (by omega) (by omega))
    unfold UJ stO
    simp only [b7, b8, b9, b10, b11, b12, b13, b14, b15, b18, b19, b20, e17]
    unfold kpH f_UN_init
    simp (disch := omega) only [gI_ne, gI_eq, gI_sL, gI_sR, gI_nx, gI_w1n, gI_w1e]
    refine ⟨⟨⟨?_, ?_, ?_, ?_, ?_⟩, ?_, ?_, ?_, ?_, ?_⟩, ⟨?_, ?_, ?_⟩, ⟨?_, ?_⟩, ⟨⟨0, Nat.zero_le _, by decide⟩, ⟨0, Nat.zero_le _, by decide⟩, ⟨0, by decide, by decide⟩⟩, ?_, ?_⟩
    all_goals simp
  · rw [mg_m (by decide) (by decide)]
    exact b18
theorem sI_idv {h : ev_H} {k i j : Nat} {v : Int32} (q : gI h k i j = v) : sI h k i j v = h := by
  rw [← q]
  exact sI_id
/-- a new unit of a donor -/
theorem un_eq {h : ev_H} {kd gr rh dn ex : Int32} (hn : cU h < 48) (e : gI h 0 0 3 = nI (cU h)) : f_TB_keep (f_UN_init (nw h 1) (cU h) kd gr rh dn ex) (cU h) = (nI (cU h), kpH h kd gr rh dn ex 0 0 0) := by
  have cn : (nI (cU h)).toNatClampNeg = cU h := nI_clamp (by omega)
  have w3 : gI (f_UN_init (nw h 1) (cU h) kd gr rh dn ex) 0 0 3 = nI (cU h) := by
    unfold f_UN_init
    simp (disch := omega) only [gI_ne, gI_eq, gI_sL, gI_sR, gI_nx, gI_w1n, gI_w1e]
    exact e
  have z : ∀ j, j = 5 ∨ j = 6 ∨ j = 7 → gI (f_UN_init (nw h 1) (cU h) kd gr rh dn ex) 1 (cU h) j = 0 := fun j q => by
    unfold f_UN_init
    simp (disch := omega) only [gI_ne, gI_eq, gI_sL, gI_sR, gI_nx, gI_w1n, gI_w1e]
  unfold f_TB_keep kpH
  rw [sI_idv (z 7 (by omega)), sI_idv (z 5 (by omega)), sI_idv (z 6 (by omega)), gI_eq ⟨rfl, rfl, rfl⟩, gI_sR, w3, cn, nI_1, nI_pred]
theorem rm_1 {h : ev_H} {c t l : Nat} (I : Inv h c t l) (k : Nat) (hk : k ≤ 3) (q : ¬ f_TB_hasRoomFor h (nI k) = 0) : cU h + k ≤ 48 := by
  have l48 := Inv_48 I
  unfold f_TB_hasRoomFor at q
  rw [Inv_n I, nI_add] at q
  by_cases z : 48 < nI (cU h + k)
  · rw [if_pos z] at q
    exact absurd rfl q
  · have e : (48 : Int32) = nI 48 := by decide
    rw [e, nI_ltI (by omega) (by omega)] at z
    omega
theorem rm_0 {h : ev_H} {c t l : Nat} (I : Inv h c t l) (k : Nat) (hk : k ≤ 3) (q : f_TB_hasRoomFor h (nI k) = 0) : 48 < cU h + k := by
  have l48 := Inv_48 I
  unfold f_TB_hasRoomFor at q
  rw [Inv_n I, nI_add] at q
  by_cases z : 48 < nI (cU h + k)
  · have e : (48 : Int32) = nI 48 := by decide
    rw [e, nI_ltI (by omega) (by omega)] at z
    exact z
  · rw [if_neg z] at q
    exact absurd q (by decide)
theorem u54 {x1 x2 x3 x4 x5 : Int32} : m_MO_unit_54 x1 x2 x3 x4 x5 = if f_TB_isBelow x1 16 = 0 then 1 else (if f_TB_isBelow x2 4 = 0 then 1 else (if f_TB_isBloodType x3 x4 = 0 then 1 else (if f_MO_in x5 1 60000 = 0 then 1 else 0))) := by
  unfold m_MO_unit_54
  rw [in_below (x := x1) (m := 15) (n := 16) (by decide), in_below (x := x2) (m := 3) (n := 4) (by decide), in_below (x := x3) (m := 3) (n := 4) (by decide), in_below (x := x4) (m := 1) (n := 2) (by decide)]
  unfold f_TB_isBloodType
  by_cases a : f_TB_isBelow x3 4 = 0 <;> by_cases b : f_TB_isBelow x4 2 = 0 <;> simp [a, b]
theorem mg_L {A B : ev_H} {c t l k i j : Nat} {v : Int64} (I : Inv (mg A B) c t l) : Inv (mg (sL A k i j v) B) c t l := I
theorem pr_unit {h : ev_H} {c t l : Nat} (I : Inv h c t l) (hc : c < 512) {x1 x2 x3 x4 x5 : Int32} : okM (f_LW_unit h x1 x2 x3 x4 x5) (f_MO_unit ((f_LW_unit h x1 x2 x3 x4 x5).2) x1 x2 x3 x4 x5) h c := by
  have l48 := Inv_48 I
  have l10 := Inv_10 I
  have tb := Inv_tb I
  by_cases q1 : (f_TB_isBelow x1 16) = 0
  · have eL : f_LW_unit h x1 x2 x3 x4 x5 = ((1 : Int32), nx h) := by simp only [f_LW_unit, if_pos q1]
    have e : mE (nx h) h := mE_sm sm_nx
    have eM : f_MO_unit (nx h) x1 x2 x3 x4 x5 = (0, sI (nx h) 0 6 0 1) := by simp [f_MO_unit, f_MO_unit_54, f_MO_unit_73, u54, q1, refused_0, refused_2, refused_3, refused_4, f_MO_refused1]
    rw [eL]
    show okM (1, nx h) (f_MO_unit (nx h) x1 x2 x3 x4 x5) h c
    rw [eM]
    exact okM_rf I hc (by decide)
  · by_cases q2 : (f_TB_isBelow x2 4) = 0
    · have eL : f_LW_unit h x1 x2 x3 x4 x5 = ((1 : Int32), nx h) := by simp only [f_LW_unit, if_neg q1, if_pos q2]
      have e : mE (nx h) h := mE_sm sm_nx
      have eM : f_MO_unit (nx h) x1 x2 x3 x4 x5 = (0, sI (nx h) 0 6 0 1) := by simp [f_MO_unit, f_MO_unit_54, f_MO_unit_73, u54, q1, q2, refused_0, refused_2, refused_3, refused_4, f_MO_refused1]
      rw [eL]
      show okM (1, nx h) (f_MO_unit (nx h) x1 x2 x3 x4 x5) h c
      rw [eM]
      exact okM_rf I hc (by decide)
    · by_cases q3 : (f_TB_isBloodType x3 x4) = 0
      · have eL : f_LW_unit h x1 x2 x3 x4 x5 = ((1 : Int32), nx h) := by simp only [f_LW_unit, if_neg q1, if_neg q2, if_pos q3]
        have e : mE (nx h) h := mE_sm sm_nx
        have eM : f_MO_unit (nx h) x1 x2 x3 x4 x5 = (0, sI (nx h) 0 6 0 1) := by simp [f_MO_unit, f_MO_unit_54, f_MO_unit_73, u54, q1, q2, q3, refused_0, refused_2, refused_3, refused_4, f_MO_refused1]
        rw [eL]
        show okM (1, nx h) (f_MO_unit (nx h) x1 x2 x3 x4 x5) h c
        rw [eM]
        exact okM_rf I hc (by decide)
      · by_cases q4 : x5 < 1
        · have eL : f_LW_unit h x1 x2 x3 x4 x5 = ((1 : Int32), nx h) := by simp only [f_LW_unit, if_neg q1, if_neg q2, if_neg q3, if_pos q4]
          have e : mE (nx h) h := mE_sm sm_nx
          have eM : f_MO_unit (nx h) x1 x2 x3 x4 x5 = (0, sI (nx h) 0 6 0 1) := by simp [f_MO_unit, f_MO_unit_54, f_MO_unit_73, u54, in_lo q4, q1, q2, q3, q4, refused_0, refused_2, refused_3, refused_4, f_MO_refused1]
          rw [eL]
          show okM (1, nx h) (f_MO_unit (nx h) x1 x2 x3 x4 x5) h c
          rw [eM]
          exact okM_rf I hc (by decide)
        · by_cases q5 : x5 ≤ 60000
          · by_cases q6 : (f_TB_hasRoomFor h 1) = 0
            · have w73 : m_MO_unit_73 (nx h) x1 x2 x3 x4 x5 = 1 := by
                have z := rm_0 I 1 (by decide) q6
                unfold m_MO_unit_73
                have e1 : gI (nx h) 0 6 2 = 48 := by
                  rw [gI_nx, Inv_n2 I]
                  have : cU h = 48 := by omega
                  rw [this]
                  decide
                rw [if_pos e1]
              have eL : f_LW_unit h x1 x2 x3 x4 x5 = ((2 : Int32), nx h) := by simp only [f_LW_unit, if_neg q1, if_neg q2, if_neg q3, if_neg q4, if_pos q5, if_pos q6]
              have e : mE (nx h) h := mE_sm sm_nx
              have eM : f_MO_unit (nx h) x1 x2 x3 x4 x5 = (0, sI (nx h) 0 6 0 2) := by simp [f_MO_unit, f_MO_unit_54, f_MO_unit_73, u54, w73, in_1 q4 q5, q1, q2, q3, q4, q5, q6, refused_0, refused_2, refused_3, refused_4, f_MO_refused1]
              rw [eL]
              show okM (2, nx h) (f_MO_unit (nx h) x1 x2 x3 x4 x5) h c
              rw [eM]
              exact okM_rf I hc (by decide)
            · have hn : cU h < 48 := by have := rm_1 I 1 (by decide) q6; omega
              have eL : f_LW_unit h x1 x2 x3 x4 x5 = ((0 : Int32), sL (kpH h x2 x3 x4 (1 <<< (x1 &&& 31)) (gI h 0 0 5 + x5) 0 0 0) 0 27 0 (nI (cU h)).toInt64) := by simp only [f_LW_unit, if_neg q1, if_neg q2, if_neg q3, if_neg q4, if_pos q5, if_neg q6, gI_w1n (show ¬ (0 = 1 ∧ 0 = cU h) by omega), un_eq hn (Inv_n I)]
              rw [eL]
              show okM (0, sL (kpH h x2 x3 x4 (1 <<< (x1 &&& 31)) (gI h 0 0 5 + x5) 0 0 0) 0 27 0 (nI (cU h)).toInt64) (f_MO_unit (sL (kpH h x2 x3 x4 (1 <<< (x1 &&& 31)) (gI h 0 0 5 + x5) 0 0 0) 0 27 0 (nI (cU h)).toInt64) x1 x2 x3 x4 x5) h c
              have e0 : mE (sL (kpH h x2 x3 x4 (1 <<< (x1 &&& 31)) (gI h 0 0 5 + x5) 0 0 0) 0 27 0 (nI (cU h)).toInt64) h := fun a b x y z => by rw [gI_sL, kp_o (by omega) (by omega)]
              have e : mE (sI (sL (kpH h x2 x3 x4 (1 <<< (x1 &&& 31)) (gI h 0 0 5 + x5) 0 0 0) 0 27 0 (nI (cU h)).toInt64) 0 6 0 0) h := mE_tr (mE_k (by omega)) e0
              have hr : f_MO_refused (sL (kpH h x2 x3 x4 (1 <<< (x1 &&& 31)) (gI h 0 0 5 + x5) 0 0 0) 0 27 0 (nI (cU h)).toInt64) (m_MO_unit_54 x1 x2 x3 x4 x5) (m_MO_unit_73 (sL (kpH h x2 x3 x4 (1 <<< (x1 &&& 31)) (gI h 0 0 5 + x5) 0 0 0) 0 27 0 (nI (cU h)).toInt64) x1 x2 x3 x4 x5) 0 0 = ((0 : Int32), sI (sL (kpH h x2 x3 x4 (1 <<< (x1 &&& 31)) (gI h 0 0 5 + x5) 0 0 0) 0 27 0 (nI (cU h)).toInt64) 0 6 0 0) := by
                have w : m_MO_unit_73 (sL (kpH h x2 x3 x4 (1 <<< (x1 &&& 31)) (gI h 0 0 5 + x5) 0 0 0) 0 27 0 (nI (cU h)).toInt64) x1 x2 x3 x4 x5 = 0 := by
                  unfold m_MO_unit_73
                  rw [e0 6 2 (by decide) (by decide) (fun _ => by decide), Inv_n2 I, if_neg]
                  intro z
                  have e48 : (48 : Int32) = nI 48 := by decide
                  rw [e48, nI_eq (by omega) (by omega)] at z
                  omega
                rw [w, u54]
                simp only [q1, q2, q3, in_1 q4 q5, n10, if_false]
                exact refused_0
              have e2 : gI (sI (sL (kpH h x2 x3 x4 (1 <<< (x1 &&& 31)) (gI h 0 0 5 + x5) 0 0 0) 0 27 0 (nI (cU h)).toInt64) 0 6 0 0) 0 6 2 = nI (cU h) := by rw [e 6 2 (by decide) (by decide) (fun _ => by decide), Inv_n2 I]
              have cn : (nI (cU h)).toNatClampNeg = cU h := nI_clamp (by omega)
              have e154 : hp_MO_unit_154 (sL (kpH h x2 x3 x4 (1 <<< (x1 &&& 31)) (gI h 0 0 5 + x5) 0 0 0) 0 27 0 (nI (cU h)).toInt64) x1 x2 x3 x4 x5 = sI (sI (sI (sI (sI (sI (sI (sI (sL (kpH h x2 x3 x4 (1 <<< (x1 &&& 31)) (gI h 0 0 5 + x5) 0 0 0) 0 27 0 (nI (cU h)).toInt64) 0 6 0 0) 0 8 (cU h) x3) 0 9 (cU h) x4) 0 10 (cU h) 0) 0 11 (cU h) 0) 0 12 (cU h) 0) 0 13 (cU h) (gI h 0 0 5 + x5)) 0 14 (cU h) (1 <<< (x1 &&& 31)) := by
                have e130 : hp_MO_unit_130 (sL (kpH h x2 x3 x4 (1 <<< (x1 &&& 31)) (gI h 0 0 5 + x5) 0 0 0) 0 27 0 (nI (cU h)).toInt64) x1 x2 x3 x4 x5 = sI (sI (sI (sI (sI (sI (sL (kpH h x2 x3 x4 (1 <<< (x1 &&& 31)) (gI h 0 0 5 + x5) 0 0 0) 0 27 0 (nI (cU h)).toInt64) 0 6 0 0) 0 8 (cU h) x3) 0 9 (cU h) x4) 0 10 (cU h) 0) 0 11 (cU h) 0) 0 12 (cU h) 0 := by
                  unfold hp_MO_unit_130 hp_MO_unit_122 hp_MO_unit_114 hp_MO_unit_106 hp_MO_unit_97
                  simp only [hr, e2, cn]
                unfold hp_MO_unit_154 hp_MO_unit_144
                rw [e130, hr]
                simp only [e2, cn]
                rw [gI_ne (by omega), gI_ne (by omega), gI_ne (by omega), gI_ne (by omega), gI_ne (by omega), rd_nw I e]
              have e3 : gI (sI (sI (sI (sI (sI (sI (sI (sI (sL (kpH h x2 x3 x4 (1 <<< (x1 &&& 31)) (gI h 0 0 5 + x5) 0 0 0) 0 27 0 (nI (cU h)).toInt64) 0 6 0 0) 0 8 (cU h) x3) 0 9 (cU h) x4) 0 10 (cU h) 0) 0 11 (cU h) 0) 0 12 (cU h) 0) 0 13 (cU h) (gI h 0 0 5 + x5)) 0 14 (cU h) (1 <<< (x1 &&& 31))) 0 6 2 = nI (cU h) := by
                rw [gI_ne (by omega), gI_ne (by omega), gI_ne (by omega), gI_ne (by omega), gI_ne (by omega), gI_ne (by omega), gI_ne (by omega), e2]
              have ea := ad_eq (B := sI (sI (sI (sI (sI (sI (sI (sI (sL (kpH h x2 x3 x4 (1 <<< (x1 &&& 31)) (gI h 0 0 5 + x5) 0 0 0) 0 27 0 (nI (cU h)).toInt64) 0 6 0 0) 0 8 (cU h) x3) 0 9 (cU h) x4) 0 10 (cU h) 0) 0 11 (cU h) 0) 0 12 (cU h) 0) 0 13 (cU h) (gI h 0 0 5 + x5)) 0 14 (cU h) (1 <<< (x1 &&& 31))) (a := cU h) (kd := x2) (mk := 0) (lim := -1) hn hn e3
              have eM : f_MO_unit (sL (kpH h x2 x3 x4 (1 <<< (x1 &&& 31)) (gI h 0 0 5 + x5) 0 0 0) 0 27 0 (nI (cU h)).toInt64) x1 x2 x3 x4 x5 = (nI (cU h), adH (sI (sI (sI (sI (sI (sI (sI (sI (sL (kpH h x2 x3 x4 (1 <<< (x1 &&& 31)) (gI h 0 0 5 + x5) 0 0 0) 0 27 0 (nI (cU h)).toInt64) 0 6 0 0) 0 8 (cU h) x3) 0 9 (cU h) x4) 0 10 (cU h) 0) 0 11 (cU h) 0) 0 12 (cU h) 0) 0 13 (cU h) (gI h 0 0 5 + x5)) 0 14 (cU h) (1 <<< (x1 &&& 31))) (cU h) (cU h) x2 0 (adE (sI (sI (sI (sI (sI (sI (sI (sI (sL (kpH h x2 x3 x4 (1 <<< (x1 &&& 31)) (gI h 0 0 5 + x5) 0 0 0) 0 27 0 (nI (cU h)).toInt64) 0 6 0 0) 0 8 (cU h) x3) 0 9 (cU h) x4) 0 10 (cU h) 0) 0 11 (cU h) 0) 0 12 (cU h) 0) 0 13 (cU h) (gI h 0 0 5 + x5)) 0 14 (cU h) (1 <<< (x1 &&& 31))) (cU h) (-1))) := by
                unfold f_MO_unit f_MO_unit_54 f_MO_unit_73 hp_MO_unit_163
                simp only [hr, e154, e2, ea, if_true]
              rw [eM]
              have eE : adE (sI (sI (sI (sI (sI (sI (sI (sI (sL (kpH h x2 x3 x4 (1 <<< (x1 &&& 31)) (gI h 0 0 5 + x5) 0 0 0) 0 27 0 (nI (cU h)).toInt64) 0 6 0 0) 0 8 (cU h) x3) 0 9 (cU h) x4) 0 10 (cU h) 0) 0 11 (cU h) 0) 0 12 (cU h) 0) 0 13 (cU h) (gI h 0 0 5 + x5)) 0 14 (cU h) (1 <<< (x1 &&& 31))) (cU h) (-1) = gI h 0 0 5 + x5 := by
                unfold adE
                rw [if_pos (by decide), gI_ne (by omega), gI_eq (by omega)]
              rw [eE]
              have I1 := mg_0 I hc e
              have I2 : Inv (mg (kpH h x2 x3 x4 (1 <<< (x1 &&& 31)) (gI h 0 0 5 + x5) 0 0 0) (adH (sI (sI (sI (sI (sI (sI (sI (sI (sL (kpH h x2 x3 x4 (1 <<< (x1 &&& 31)) (gI h 0 0 5 + x5) 0 0 0) 0 27 0 (nI (cU h)).toInt64) 0 6 0 0) 0 8 (cU h) x3) 0 9 (cU h) x4) 0 10 (cU h) 0) 0 11 (cU h) 0) 0 12 (cU h) 0) 0 13 (cU h) (gI h 0 0 5 + x5)) 0 14 (cU h) (1 <<< (x1 &&& 31))) (cU h) (cU h) x2 0 (gI h 0 0 5 + x5))) (c + 1) t l := by
                have hz := Inv_Z I
                refine mg_new I1 hn ?_ ?_ ?_ ?_ ?_ ?_ ?_ ?_ ?_ ?_ ?_ ?_ ?_ ?_ (by omega)
                · intro i j a b z y
                  unfold adH
                  simp (disch := omega) only [gI_ne]
                all_goals (unfold adH; simp (disch := omega) only [gI_ne, gI_eq])
                all_goals decide
              have I3 : Inv (adH (sI (sI (sI (sI (sI (sI (sI (sI (sL (kpH h x2 x3 x4 (1 <<< (x1 &&& 31)) (gI h 0 0 5 + x5) 0 0 0) 0 27 0 (nI (cU h)).toInt64) 0 6 0 0) 0 8 (cU h) x3) 0 9 (cU h) x4) 0 10 (cU h) 0) 0 11 (cU h) 0) 0 12 (cU h) 0) 0 13 (cU h) (gI h 0 0 5 + x5)) 0 14 (cU h) (1 <<< (x1 &&& 31))) (cU h) (cU h) x2 0 (gI h 0 0 5 + x5)) (c + 1) t l := by
                have f : mg (sL (kpH h x2 x3 x4 (1 <<< (x1 &&& 31)) (gI h 0 0 5 + x5) 0 0 0) 0 27 0 (nI (cU h)).toInt64) (adH (sI (sI (sI (sI (sI (sI (sI (sI (sL (kpH h x2 x3 x4 (1 <<< (x1 &&& 31)) (gI h 0 0 5 + x5) 0 0 0) 0 27 0 (nI (cU h)).toInt64) 0 6 0 0) 0 8 (cU h) x3) 0 9 (cU h) x4) 0 10 (cU h) 0) 0 11 (cU h) 0) 0 12 (cU h) 0) 0 13 (cU h) (gI h 0 0 5 + x5)) 0 14 (cU h) (1 <<< (x1 &&& 31))) (cU h) (cU h) x2 0 (gI h 0 0 5 + x5)) = adH (sI (sI (sI (sI (sI (sI (sI (sI (sL (kpH h x2 x3 x4 (1 <<< (x1 &&& 31)) (gI h 0 0 5 + x5) 0 0 0) 0 27 0 (nI (cU h)).toInt64) 0 6 0 0) 0 8 (cU h) x3) 0 9 (cU h) x4) 0 10 (cU h) 0) 0 11 (cU h) 0) 0 12 (cU h) 0) 0 13 (cU h) (gI h 0 0 5 + x5)) 0 14 (cU h) (1 <<< (x1 &&& 31))) (cU h) (cU h) x2 0 (gI h 0 0 5 + x5) := mg_fin (fun k i j z => by unfold adH; simp (disch := omega) only [gI_ne]) rfl
                rw [← f]
                exact mg_L I2
              exact ⟨⟨e0, rfs_R (h := adH (sI (sI (sI (sI (sI (sI (sI (sI (sL (kpH h x2 x3 x4 (1 <<< (x1 &&& 31)) (gI h 0 0 5 + x5) 0 0 0) 0 27 0 (nI (cU h)).toInt64) 0 6 0 0) 0 8 (cU h) x3) 0 9 (cU h) x4) 0 10 (cU h) 0) 0 11 (cU h) 0) 0 12 (cU h) 0) 0 13 (cU h) (gI h 0 0 5 + x5)) 0 14 (cU h) (1 <<< (x1 &&& 31))) (cU h) (cU h) x2 0 (gI h 0 0 5 + x5)) (fun _ _ _ => rfl) (Inv_R I3)⟩, by show gI _ 0 6 0 = 0; unfold adH; simp (disch := omega) only [gI_ne, gI_eq], fun _ => by show lg_cmp (gL (adH _ _ _ _ _ _) 0 27 0) _ = 0; unfold adH; simp only [gL_sI, gL_sL]; exact lg_self _, t, l, I3⟩
          · have eL : f_LW_unit h x1 x2 x3 x4 x5 = ((1 : Int32), nx h) := by simp only [f_LW_unit, if_neg q1, if_neg q2, if_neg q3, if_neg q4, if_neg q5]
            have e : mE (nx h) h := mE_sm sm_nx
            have eM : f_MO_unit (nx h) x1 x2 x3 x4 x5 = (0, sI (nx h) 0 6 0 1) := by simp [f_MO_unit, f_MO_unit_54, f_MO_unit_73, u54, in_hi q5, q1, q2, q3, q4, q5, refused_0, refused_2, refused_3, refused_4, f_MO_refused1]
            rw [eL]
            show okM (1, nx h) (f_MO_unit (nx h) x1 x2 x3 x4 x5) h c
            rw [eM]
            exact okM_rf I hc (by decide)
