/-! time (by program) -/
theorem nI_sb {a b : Nat} (q : b ≤ a) : nI a - nI b = nI (a - b) := by
  obtain ⟨d, rfl⟩ : ∃ d, a = d + b := ⟨a - b, by omega⟩
  rw [← nI_add, Int32.add_sub_cancel, Nat.add_sub_cancel]
def ovr (h : ev_H) (v : Nat) : Prop := gI h 1 v 8 = 1 ∧ ¬ gI h 0 0 5 < gI h 1 v 10
theorem ps_2 (h : ev_H) (x : Int32) : ∀ n, (r_TB_pass_L32 h x n).2 = h.2
  | 0 => rfl
  | n + 1 => by
    rw [r_TB_pass_L32, f_UN_endReservationWhenOver]
    split
    · split
      · exact ps_2 h x n
      · exact ps_2 h x n
    · exact ps_2 h x n
theorem ps_n (h : ev_H) (x : Int32) : ∀ n k i j, ¬ (k = 1 ∧ i < n ∧ ovr h i) → gI (r_TB_pass_L32 h x n) k i j = gI h k i j
  | 0, k, i, j, _ => rfl
  | n + 1, k, i, j, q => by
    have z8 := ps_n h x n 1 n 8 (by omega)
    have z10 := ps_n h x n 1 n 10 (by omega)
    have z5 := ps_n h x n 0 0 5 (by omega)
    have zz := ps_n h x n k i j (fun w => q ⟨w.1, by omega, w.2.2⟩)
    rw [r_TB_pass_L32, f_UN_endReservationWhenOver, z8, z10, z5]
    by_cases a : gI h 1 n 8 = 1
    · rw [if_pos a]
      by_cases b : gI h 0 0 5 < gI h 1 n 10
      · rw [if_pos b, zz]
      · rw [if_neg b, f_UN_store]
        have w : ¬ (k = 1 ∧ i = n) := fun w => q ⟨w.1, by omega, by rw [w.2]; exact ⟨a, b⟩⟩
        rw [gI_ne (by omega), gI_ne (by omega), gI_ne (by omega), gI_ne (by omega), zz]
    · rw [if_neg a, zz]
theorem ps_y (h : ev_H) (x : Int32) : ∀ n i j, i < n → ovr h i → gI (r_TB_pass_L32 h x n) 1 i j = if j = 13 then 0 else (if j = 12 then -1 else (if j = 9 then -1 else (if j = 8 then 0 else gI h 1 i j)))
  | n + 1, i, j, q, o => by
    have z8 := ps_n h x n 1 n 8 (by omega)
    have z10 := ps_n h x n 1 n 10 (by omega)
    have z5 := ps_n h x n 0 0 5 (by omega)
    rw [r_TB_pass_L32, f_UN_endReservationWhenOver, z8, z10, z5]
    by_cases w : i = n
    · subst w
      have zj := ps_n h x i 1 i j (by omega)
      rw [if_pos o.1, if_neg o.2, f_UN_store]
      by_cases a1 : j = 13
      · rw [if_pos a1, gI_eq (by omega)]
      · rw [if_neg a1, gI_ne (by omega)]
        by_cases a2 : j = 12
        · rw [if_pos a2, gI_eq (by omega)]
        · rw [if_neg a2, gI_ne (by omega)]
          by_cases a3 : j = 9
          · rw [if_pos a3, gI_eq (by omega)]
          · rw [if_neg a3, gI_ne (by omega)]
            by_cases a4 : j = 8
            · rw [if_pos a4, gI_eq (by omega)]
            · rw [if_neg a4, gI_ne (by omega), zj]
    · have ih := ps_y h x n i j (by omega) o
      by_cases a : gI h 1 n 8 = 1
      · rw [if_pos a]
        by_cases b : gI h 0 0 5 < gI h 1 n 10
        · rw [if_pos b, ih]
        · rw [if_neg b, f_UN_store, gI_ne (by omega), gI_ne (by omega), gI_ne (by omega), gI_ne (by omega), ih]
      · rw [if_neg a, ih]
theorem stO_1 {t s : Nat} {g : Nat → Int32} (z : g 15 = 1) (es : g 17 = nI s) (hs : s ≤ t) (hb : t ≤ 1000000000) : stO (nI t) g = if t - s < 4320 then 1 else 0 := by
  have e4 : (4320 : Int32) = nI 4320 := by decide
  have w : (nI t - g 17 < 4320) = (t - s < 4320) := by
    rw [es, nI_sb hs, e4]
    exact propext (nI_ltI (by omega) (by omega))
  unfold stO
  simp only [w, z, if_true]
/-- time goes on: a unit whose reservation isn't over -/
theorem UJ_t {t t' l s : Nat} {f g : Nat → Int32} (q : UJ t l f g) (ht : t ≤ t') (hb : t' ≤ 1000000000) (o : ¬ (f 8 = 1 ∧ ¬ nI t' < f 10)) : UJ t' l f g := by
  obtain ⟨a1, ⟨s1, s2, s3⟩, ⟨w1, w2⟩, ⟨⟨s0, hs0, es0⟩, a5, a6⟩, a7⟩ := q
  have e4 : (4320 : Int32) = nI 4320 := by decide
  have k : stO (nI t') g = stO (nI t) g := by
    by_cases z : g 15 = 1
    · have x1 := stO_1 z es0 hs0 (by omega)
      have x2 := stO_1 z es0 (Nat.le_trans hs0 ht) hb
      rw [x2, x1]
      by_cases y : t - s0 < 4320
      · rw [if_pos y] at x1 ⊢
        by_cases y2 : t' - s0 < 4320
        · rw [if_pos y2]
        · refine absurd ⟨s1.trans x1, ?_⟩ o
          rw [w1 x1, es0, e4, nI_add, nI_ltI (by omega) (by omega)]
          omega
      · have y2 : ¬ t' - s0 < 4320 := by omega
        rw [if_neg y, if_neg y2]
    · unfold stO
      rw [if_neg z, if_neg z]
  refine ⟨a1, ?_, ?_, ⟨⟨s0, Nat.le_trans hs0 ht, es0⟩, a5, a6⟩, a7⟩
  · rw [k]; exact ⟨s1, s2, s3⟩
  · rw [k]; exact ⟨w1, w2⟩
/-- and one whose reservation is over -/
theorem UJ_o {t t' l : Nat} {f f' g : Nat → Int32} (q : UJ t l f g) (ht : t ≤ t') (hb : t' ≤ 1000000000) (o : f 8 = 1 ∧ ¬ nI t' < f 10) (hf : ∀ j, f' j = if j = 13 then 0 else (if j = 12 then -1 else (if j = 9 then -1 else (if j = 8 then 0 else f j)))) : UJ t' l f' g := by
  obtain ⟨⟨⟨k1, k2, k3, k4, k5⟩, k6, k7, k8, k9, k10⟩, ⟨s1, s2, s3⟩, ⟨w1, w2⟩, ⟨⟨s0, hs0, es0⟩, a5, a6⟩, z1, z2⟩ := q
  have e4 : (4320 : Int32) = nI 4320 := by decide
  have o1 : stO (nI t) g = 1 := by rw [← s1]; exact o.1
  have g15 : g 15 = 1 := by
    unfold stO at o1
    by_cases z : g 15 = 1
    · exact z
    · rw [if_neg z] at o1
      exact o1
  have g0 := z1 (Or.inr g15)
  have k : stO (nI t') g = 0 := by
    have y := o.2
    rw [w1 o1, es0, e4, nI_add, nI_ltI (by omega) (by omega)] at y
    have y2 : ¬ t' - s0 < 4320 := by omega
    rw [stO_1 g15 es0 (Nat.le_trans hs0 ht) hb, if_neg y2]
  refine ⟨⟨⟨?_, ?_, ?_, ?_, ?_⟩, ?_, ?_, ?_, ?_, ?_⟩, ⟨?_, ?_, ?_⟩, ⟨?_, ?_⟩, ⟨⟨s0, Nat.le_trans hs0 ht, es0⟩, a5, a6⟩, z1, z2⟩
  all_goals simp [hf, k, g0, g15, k1, k2, k3, k4, k5, k6, k7, k8, k10]
theorem Inv_ps {h h' : ev_H} {c t l d : Nat} (I : Inv h c t l) (hc : c < 512) (hd : d ≤ 50000) (s1 : ∀ k i j, vis k i j → ¬ (k = 1) → ¬ (k = 0 ∧ i = 0 ∧ j = 5) → ¬ (k = 0 ∧ i = 6 ∧ j = 1) → gI h' k i j = gI h k i j) (n5 : gI h' 0 0 5 = nI (t + d)) (n1 : gI h' 0 6 1 = nI (t + d)) (s2 : ∀ k i j, gR h' k i j = gR h k i j) (s3 : cs h' = cs h) (hZ : cZ h' ≤ cZ h + 4)
    (un : ∀ u, u < cU h → UJ (t + d) l (fun f => gI h' 1 u f) (fun a => gI h 0 a u)) : Inv h' (c + 1) (t + d) l := by
  obtain ⟨⟨⟨a1, a2, a3, a4, a5, a6⟩, ⟨b1, b2, b3, b4⟩, ⟨d1, d2, d3, d4, d5⟩, ⟨r1, r2⟩, t1, t2, t3⟩, iU, iP, iB, iX, iQ⟩ := I
  have eU := cs_U s3
  have eP := cs_P s3
  have g0 : ∀ j, j ≠ 5 → gI h' 0 0 j = gI h 0 0 j := fun j hj => s1 0 0 j (by unfold vis; omega) (by omega) (by omega) (by omega)
  have g6 : ∀ j, 2 ≤ j → gI h' 0 6 j = gI h 0 6 j := fun j hj => s1 0 6 j (by unfold vis; omega) (by omega) (by omega) (by omega)
  have ga : ∀ a j, 7 ≤ a → a ≤ 26 → gI h' 0 a j = gI h 0 a j := fun a j x y => s1 0 a j (by unfold vis; omega) (by omega) (by omega) (by omega)
  refine ⟨⟨⟨rfs_R s2 a1, by rw [cs_F s3]; exact a2, by rw [cs_N s3, eP]; exact a3, by rw [eU]; exact a4, by rw [eP]; exact a5, by omega⟩, ?_, ?_, ?_, by omega⟩, fun u hu => ?_, fun p hp => ?_, ?_, fun p hp u hu => ?_, fun u v hu hv n => ?_⟩
  · rw [g0 _ (by decide), g0 _ (by decide), g6 _ (by decide), g6 _ (by decide), eU, eP]
    exact ⟨b1, b2, b3, b4⟩
  · rw [g0 6 (by decide), g0 7 (by decide), g6 18 (by decide), g6 17 (by decide)]
    exact ⟨n5, n1, d3, d4, d5⟩
  · rw [eU, eP]
    simp only [s2]
    exact ⟨r1, r2⟩
  · rw [eU] at hu
    exact UJ_congr (Nat.le_refl l) (un u hu) (fun f => rfl) (fun a x y => ga a u x (by omega))
  · rw [eP] at hp
    exact PJ_congr (iP p hp) (fun f => s1 2 p f (by unfold vis; omega) (by omega) (by omega) (by omega)) (fun a x y => ga a p (by omega) (by omega))
  · unfold IvB at iB ⊢
    rw [eU, eP]
    simp only [ga 17 _ (by decide) (by decide), ga 22 _ (by decide) (by decide), ga 23 _ (by decide) (by decide), ga 24 _ (by decide) (by decide), ga 25 _ (by decide) (by decide), ga 26 _ (by decide) (by decide)]
    exact iB
  · rw [eP] at hp
    rw [ga 26 _ (by decide) (by decide), s1 3 p u (by unfold vis; omega) (by omega) (by omega) (by omega)]
    exact iX p hp u hu
  · rw [eU] at hu hv
    rw [ga 18 _ (by decide) (by decide), ga 18 _ (by decide) (by decide)]
    exact iQ u v hu hv n
/-- the program's heap when d minutes have gone -/
def psC (h : ev_H) (t d : Nat) : ev_H := r_TB_pass_L32 (sI h 0 0 5 (nI (t + d))) (nI d) (cU h)
theorem psC_2 {h : ev_H} {t d : Nat} : (psC h t d).2 = h.2 := ps_2 _ _ _
theorem psC_n {h : ev_H} {t d k i j : Nat} (q : ¬ k = 1) : gI (psC h t d) k i j = gI (sI h 0 0 5 (nI (t + d))) k i j := ps_n _ _ _ k i j (fun z => q z.1)
theorem psC_0 {h : ev_H} {t d k i j : Nat} (q : ¬ k = 1) (q2 : ¬ (k = 0 ∧ i = 0 ∧ j = 5)) : gI (psC h t d) k i j = gI h k i j := by rw [psC_n q, gI_ne q2]
theorem pr_pass {h : ev_H} {c t l : Nat} (I : Inv h c t l) (hc : c < 512) {x1 : Int32} : okM (f_LW_pass h x1) (f_MO_pass ((f_LW_pass h x1).2) x1) h c := by
  have l48 := Inv_48 I
  have l10 := Inv_10 I
  have tb := Inv_tb I
  by_cases q1 : x1 < 0
  · have eL : f_LW_pass h x1 = ((1 : Int32), nx h) := by simp only [f_LW_pass, if_pos q1]
    have e : mE (nx h) h := mE_sm sm_nx
    have eM : f_MO_pass (nx h) x1 = (0, sI (nx h) 0 6 0 1) := by simp [f_MO_pass, m_MO_pass_16, f_MO_pass_16, in_lo q1, q1, refused_0, refused_2, refused_3, refused_4, f_MO_refused1]
    rw [eL]
    show okM (1, nx h) (f_MO_pass (nx h) x1) h c
    rw [eM]
    exact okM_rf I hc (by decide)
  · by_cases q2 : x1 ≤ 50000
    · have eL : f_LW_pass h x1 = ((0 : Int32), sL (r_TB_pass_L32 (sI h 0 0 5 (gI h 0 0 5 + x1)) x1 (gI (sI h 0 0 5 (gI h 0 0 5 + x1)) 0 0 3).toNatClampNeg) 0 27 0 ((gI (r_TB_pass_L32 (sI h 0 0 5 (gI h 0 0 5 + x1)) x1 (gI (sI h 0 0 5 (gI h 0 0 5 + x1)) 0 0 3).toNatClampNeg) 0 0 5).toInt64)) := by simp only [f_LW_pass, if_neg q1, if_pos q2]
      rw [eL]
      show okM (0, sL (r_TB_pass_L32 (sI h 0 0 5 (gI h 0 0 5 + x1)) x1 (gI (sI h 0 0 5 (gI h 0 0 5 + x1)) 0 0 3).toNatClampNeg) 0 27 0 ((gI (r_TB_pass_L32 (sI h 0 0 5 (gI h 0 0 5 + x1)) x1 (gI (sI h 0 0 5 (gI h 0 0 5 + x1)) 0 0 3).toNatClampNeg) 0 0 5).toInt64)) (f_MO_pass (sL (r_TB_pass_L32 (sI h 0 0 5 (gI h 0 0 5 + x1)) x1 (gI (sI h 0 0 5 (gI h 0 0 5 + x1)) 0 0 3).toNatClampNeg) 0 27 0 ((gI (r_TB_pass_L32 (sI h 0 0 5 (gI h 0 0 5 + x1)) x1 (gI (sI h 0 0 5 (gI h 0 0 5 + x1)) 0 0 3).toNatClampNeg) 0 0 5).toInt64)) x1) h c
      obtain ⟨d, hd, ed⟩ := nI_of2 (n := 50000) (by decide) q1 q2
      have eC : r_TB_pass_L32 (sI h 0 0 5 (gI h 0 0 5 + x1)) x1 (gI (sI h 0 0 5 (gI h 0 0 5 + x1)) 0 0 3).toNatClampNeg = psC h t d := by
        rw [gI_ne (by omega), rd_c3 I, Inv_t I, ed, nI_add]
        rfl
      have e5 : gI (psC h t d) 0 0 5 = nI (t + d) := by rw [psC_n (by omega), gI_eq ⟨rfl, rfl, rfl⟩]
      rw [eC, e5]
      have e0 : mE (sL (psC h t d) 0 27 0 (nI (t + d)).toInt64) h := fun a b x y z => by rw [gI_sL, psC_0 (by omega) (by omega)]
      have e : mE (sI (sL (psC h t d) 0 27 0 (nI (t + d)).toInt64) 0 6 0 0) h := mE_tr (mE_k (by omega)) e0
      have eM : f_MO_pass (sL (psC h t d) 0 27 0 (nI (t + d)).toInt64) x1 = (nI (t + d), sI (sI (sL (psC h t d) 0 27 0 (nI (t + d)).toInt64) 0 6 0 0) 0 6 1 (nI (t + d))) := by
        have w : nI t + x1 = nI (t + d) := by rw [ed, nI_add]
        simp [f_MO_pass, f_MO_pass_16, m_MO_pass_16, in_1 q1 q2, refused_0, rd_now I e, w, gI_eq]
      rw [eM]
      have g2 : ∀ k i j, gR (psC h t d) k i j = gR h k i j := fun k i j => by unfold gR; rw [psC_2]
      refine ⟨⟨e0, rfs_R (h := h) g2 (Inv_R I)⟩, rfl, fun _ => by simp only [gL_sI, gL_sL]; exact lg_self _, t + d, l, Inv_ps I hc hd ?_ ?_ ?_ g2 ?_ ?_ ?_⟩
      · intro k i j v a b c1
        unfold vis at v
        rw [gI_ne (by omega), gI_ne (by omega), gI_sL, psC_0 a b]
      · rw [gI_ne (by omega), gI_ne (by omega), gI_sL, e5]
      · rw [gI_eq ⟨rfl, rfl, rfl⟩]
      · show cs (psC h t d) = cs h
        unfold cs cF cU cP cN
        rw [psC_2]
      · show cZ (psC h t d) ≤ cZ h + 4
        have : cZ (psC h t d) = cZ h := by unfold cZ; rw [psC_2]
        omega
      · intro u hu
        have r : ∀ f, gI (sI (sI (sL (psC h t d) 0 27 0 (nI (t + d)).toInt64) 0 6 0 0) 0 6 1 (nI (t + d))) 1 u f = gI (psC h t d) 1 u f := fun f => by rw [gI_ne (by omega), gI_ne (by omega), gI_sL]
        simp only [r]
        have o8 : gI (sI h 0 0 5 (nI (t + d))) 1 u 8 = gI h 1 u 8 := gI_ne (by omega)
        have o10 : gI (sI h 0 0 5 (nI (t + d))) 1 u 10 = gI h 1 u 10 := gI_ne (by omega)
        have o5 : gI (sI h 0 0 5 (nI (t + d))) 0 0 5 = nI (t + d) := gI_eq ⟨rfl, rfl, rfl⟩
        by_cases o : ovr (sI h 0 0 5 (nI (t + d))) u
        · refine UJ_o (t := t) (f := fun f => gI h 1 u f) (Inv_U I hu) (by omega) (by omega) ?_ (fun j => ?_)
          · unfold ovr at o
            rw [o8, o10, o5] at o
            exact o
          · show gI (psC h t d) 1 u j = _
            unfold psC
            rw [ps_y _ _ _ _ _ hu o, gI_ne (by omega)]
        · have nn : ∀ f, gI (psC h t d) 1 u f = gI h 1 u f := fun f => by
            unfold psC
            rw [ps_n _ _ _ _ _ _ (fun z => o z.2.2), gI_ne (by omega)]
          simp only [nn]
          refine UJ_t (t := t) (s := 0) (Inv_U I hu) (by omega) (by omega) ?_
          unfold ovr at o
          rw [o8, o10, o5] at o
          exact o
    · have eL : f_LW_pass h x1 = ((1 : Int32), nx h) := by simp only [f_LW_pass, if_neg q1, if_neg q2]
      have e : mE (nx h) h := mE_sm sm_nx
      have eM : f_MO_pass (nx h) x1 = (0, sI (nx h) 0 6 0 1) := by simp [f_MO_pass, m_MO_pass_16, f_MO_pass_16, in_hi q2, q1, q2, refused_0, refused_2, refused_3, refused_4, f_MO_refused1]
      rw [eL]
      show okM (1, nx h) (f_MO_pass (nx h) x1) h c
      rw [eM]
      exact okM_rf I hc (by decide)
