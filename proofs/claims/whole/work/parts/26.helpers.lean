/-! the law's helpers (by program) -/
def f_LW_pass (h : ev_H) (x1 : Int32) : Int32 × ev_H := ((if x1 < 0 then 1 else (if x1 ≤ 50000 then 0 else 1)), (if x1 < 0 then (nx h) else (if x1 ≤ 50000 then (sL (r_TB_pass_L32 (sI h 0 0 5 ((gI h 0 0 5) + x1)) x1 (gI (sI h 0 0 5 ((gI h 0 0 5) + x1)) 0 0 3).toNatClampNeg) 0 27 0 ((gI (r_TB_pass_L32 (sI h 0 0 5 ((gI h 0 0 5) + x1)) x1 (gI (sI h 0 0 5 ((gI h 0 0 5) + x1)) 0 0 3).toNatClampNeg) 0 0 5).toInt64)) else (nx h))))
theorem c_LW_pass {E : ev_E} {P : Option ev_V ⊕ Nat → ev_H → Prop} {h : ev_H} {x1 : Int32} (hZ : cZ h < ZM) (n1 : (gI h 0 0 3).toNatClampNeg ≤ 48) (n2 : ∀ b, b ≤ (gI h 0 0 3).toNatClampNeg → (gI (r_TB_pass_L32 (sI h 0 0 5 ((gI h 0 0 5) + x1)) x1 b) 0 0 3) = nI (gI h 0 0 3).toNatClampNeg) (n3 : ∀ b, b < (gI h 0 0 3).toNatClampNeg → rfs (r_TB_pass_L32 (sI h 0 0 5 ((gI h 0 0 5) + x1)) x1 b)) (n4 : ∀ b, b < (gI h 0 0 3).toNatClampNeg → gR (r_TB_pass_L32 (sI h 0 0 5 ((gI h 0 0 5) + x1)) x1 b) 0 1 b = vR 1 b) (k : P (.inl (some (vI (f_LW_pass h x1).1))) (f_LW_pass h x1).2) : Ev E M_LW_pass 0 [(0, vR 0 0), (1, vI x1), (2, vR 0 27)] [] h P := by
  refine Ev_aload_n (pc := 0) d_LW_pass_0 rfl ?_
  refine Ev_iconst (v := 0) (pc := 1) d_LW_pass_1 (by decide) ?_
  refine Ev_aload_n (pc := 2) d_LW_pass_2 rfl ?_
  refine Ev_iload_n (pc := 3) d_LW_pass_3 rfl ?_
  refine Ev_callV (M' := M_TB_pass) (as := [vI x1]) (st := [vI 0, vR 0 27]) (a := 0) (i := 0) (pc := 4) d_LW_pass_4 rfl rfl rfl rfl rfl rfl rfl v_TB_pass lk_LW_7 rfl rfl (c_TB_pass hZ n1 n2 n3 n4 ?_)
  rw [f_TB_pass]
  by_cases q1 : x1 < 0
  · rw [if_pos q1]
    refine Or.inr ⟨rfl, rfl, 12, rfl, fun xq => ?_⟩
    refine Ev_astore_n (pc := 12) d_LW_pass_12 rfl ?_
    refine Ev_iconst (v := 1) (pc := 13) d_LW_pass_13 (by decide) ?_
    refine Ev_ireturn (pc := 14) d_LW_pass_14 rfl rfl ?_
    simp only [f_LW_pass, if_pos q1] at k
    exact k
  · rw [if_neg q1]
    by_cases q2 : x1 ≤ 50000
    · rw [if_pos q2]
      refine Ev_i2l (pc := 7) d_LW_pass_7 ?_
      refine Ev_last (pc := 8) d_LW_pass_8 rfl rfl (by decide) (by decide) ?_
      refine Ev_goto (tgt := 15) (pc := 9) d_LW_pass_9 rfl ?_
      refine Ev_iconst (v := 0) (pc := 15) d_LW_pass_15 (by decide) ?_
      refine Ev_ireturn (pc := 16) d_LW_pass_16 rfl rfl ?_
      simp only [f_LW_pass, if_neg q1, if_pos q2] at k
      exact k
    · rw [if_neg q2]
      refine Or.inr ⟨rfl, rfl, 12, rfl, fun xq => ?_⟩
      refine Ev_astore_n (pc := 12) d_LW_pass_12 rfl ?_
      refine Ev_iconst (v := 1) (pc := 13) d_LW_pass_13 (by decide) ?_
      refine Ev_ireturn (pc := 14) d_LW_pass_14 rfl rfl ?_
      simp only [f_LW_pass, if_neg q1, if_neg q2] at k
      exact k
def f_LW_unit (h : ev_H) (x1 : Int32) (x2 : Int32) (x3 : Int32) (x4 : Int32) (x5 : Int32) : Int32 × ev_H := ((if (f_TB_isBelow x1 16) = 0 then 1 else (if (f_TB_isBelow x2 4) = 0 then 1 else (if (f_TB_isBloodType x3 x4) = 0 then 1 else (if x5 < 1 then 1 else (if x5 ≤ 60000 then (if (f_TB_hasRoomFor h 1) = 0 then 2 else 0) else 1))))), (if (f_TB_isBelow x1 16) = 0 then (nx h) else (if (f_TB_isBelow x2 4) = 0 then (nx h) else (if (f_TB_isBloodType x3 x4) = 0 then (nx h) else (if x5 < 1 then (nx h) else (if x5 ≤ 60000 then (if (f_TB_hasRoomFor h 1) = 0 then (nx h) else (sL ((f_TB_keep (f_UN_init (nw h 1) (cU h) x2 x3 x4 (1 <<< (x1 &&& 31)) ((gI (nw h 1) 0 0 5) + x5)) (cU h)).2) 0 27 0 (((f_TB_keep (f_UN_init (nw h 1) (cU h) x2 x3 x4 (1 <<< (x1 &&& 31)) ((gI (nw h 1) 0 0 5) + x5)) (cU h)).1).toInt64))) else (nx h)))))))
theorem c_LW_unit {E : ev_E} {P : Option ev_V ⊕ Nat → ev_H → Prop} {h : ev_H} {x1 : Int32} {x2 : Int32} {x3 : Int32} {x4 : Int32} {x5 : Int32} (hZ : cZ h < ZM) (hR : rfs h) (n2 : ¬ (gI h 0 0 3) < 0) (n3 : (¬ ((f_TB_isBelow x1 16) = 0)) → (¬ ((f_TB_isBelow x2 4) = 0)) → (¬ ((f_TB_isBloodType x3 x4) = 0)) → (¬ (x5 < 1)) → (x5 ≤ 60000) → (¬ ((f_TB_hasRoomFor h 1) = 0)) → (gI h 0 0 3).toNatClampNeg < 48) (k : P (.inl (some (vI (f_LW_unit h x1 x2 x3 x4 x5).1))) (f_LW_unit h x1 x2 x3 x4 x5).2) : Ev E M_LW_unit 0 [(0, vR 0 0), (1, vI x1), (2, vI x2), (3, vI x3), (4, vI x4), (5, vI x5), (6, vR 0 27)] [] h P := by
  refine Ev_aload (pc := 0) d_LW_unit_0 rfl ?_
  refine Ev_iconst (v := 0) (pc := 2) d_LW_unit_2 (by decide) ?_
  refine Ev_aload_n (pc := 3) d_LW_unit_3 rfl ?_
  refine Ev_iload_n (pc := 4) d_LW_unit_4 rfl ?_
  refine Ev_iload_n (pc := 5) d_LW_unit_5 rfl ?_
  refine Ev_iload_n (pc := 6) d_LW_unit_6 rfl ?_
  refine Ev_iload (pc := 7) d_LW_unit_7 rfl ?_
  refine Ev_iload (pc := 9) d_LW_unit_9 rfl ?_
  refine Ev_callV (M' := M_TB_unit) (as := [vI x1, vI x2, vI x3, vI x4, vI x5]) (st := [vI 0, vR 0 27]) (a := 0) (i := 0) (pc := 11) d_LW_unit_11 rfl rfl rfl rfl rfl rfl rfl v_TB_unit lk_LW_15 rfl rfl (c_TB_unit hZ hR n2 n3 ?_)
  rw [f_TB_unit]
  by_cases q1 : (f_TB_isBelow x1 16) = 0
  · rw [if_pos q1]
    refine Or.inr ⟨rfl, rfl, 19, rfl, fun xq => ?_⟩
    refine Ev_astore (pc := 19) d_LW_unit_19 rfl ?_
    refine Ev_iconst (v := 1) (pc := 21) d_LW_unit_21 (by decide) ?_
    refine Ev_ireturn (pc := 22) d_LW_unit_22 rfl rfl ?_
    simp only [f_LW_unit, if_pos q1] at k
    exact k
  · rw [if_neg q1]
    by_cases q2 : (f_TB_isBelow x2 4) = 0
    · rw [if_pos q2]
      refine Or.inr ⟨rfl, rfl, 19, rfl, fun xq => ?_⟩
      refine Ev_astore (pc := 19) d_LW_unit_19 rfl ?_
      refine Ev_iconst (v := 1) (pc := 21) d_LW_unit_21 (by decide) ?_
      refine Ev_ireturn (pc := 22) d_LW_unit_22 rfl rfl ?_
      simp only [f_LW_unit, if_neg q1, if_pos q2] at k
      exact k
    · rw [if_neg q2]
      by_cases q3 : (f_TB_isBloodType x3 x4) = 0
      · rw [if_pos q3]
        refine Or.inr ⟨rfl, rfl, 19, rfl, fun xq => ?_⟩
        refine Ev_astore (pc := 19) d_LW_unit_19 rfl ?_
        refine Ev_iconst (v := 1) (pc := 21) d_LW_unit_21 (by decide) ?_
        refine Ev_ireturn (pc := 22) d_LW_unit_22 rfl rfl ?_
        simp only [f_LW_unit, if_neg q1, if_neg q2, if_pos q3] at k
        exact k
      · rw [if_neg q3]
        by_cases q4 : x5 < 1
        · rw [if_pos q4]
          refine Or.inr ⟨rfl, rfl, 19, rfl, fun xq => ?_⟩
          refine Ev_astore (pc := 19) d_LW_unit_19 rfl ?_
          refine Ev_iconst (v := 1) (pc := 21) d_LW_unit_21 (by decide) ?_
          refine Ev_ireturn (pc := 22) d_LW_unit_22 rfl rfl ?_
          simp only [f_LW_unit, if_neg q1, if_neg q2, if_neg q3, if_pos q4] at k
          exact k
        · rw [if_neg q4]
          by_cases q5 : x5 ≤ 60000
          · rw [if_pos q5]
            by_cases q6 : (f_TB_hasRoomFor h 1) = 0
            · rw [if_pos q6]
              refine Or.inr ⟨rfl, rfl, 23, rfl, fun xq => ?_⟩
              refine Ev_astore (pc := 23) d_LW_unit_23 rfl ?_
              refine Ev_iconst (v := 2) (pc := 25) d_LW_unit_25 (by decide) ?_
              refine Ev_ireturn (pc := 26) d_LW_unit_26 rfl rfl ?_
              simp only [f_LW_unit, if_neg q1, if_neg q2, if_neg q3, if_neg q4, if_pos q5, if_pos q6] at k
              exact k
            · rw [if_neg q6]
              refine Ev_i2l (pc := 14) d_LW_unit_14 ?_
              refine Ev_last (pc := 15) d_LW_unit_15 rfl rfl (by decide) (by decide) ?_
              refine Ev_goto (tgt := 27) (pc := 16) d_LW_unit_16 rfl ?_
              refine Ev_iconst (v := 0) (pc := 27) d_LW_unit_27 (by decide) ?_
              refine Ev_ireturn (pc := 28) d_LW_unit_28 rfl rfl ?_
              simp only [f_LW_unit, if_neg q1, if_neg q2, if_neg q3, if_neg q4, if_pos q5, if_neg q6] at k
              exact k
          · rw [if_neg q5]
            refine Or.inr ⟨rfl, rfl, 19, rfl, fun xq => ?_⟩
            refine Ev_astore (pc := 19) d_LW_unit_19 rfl ?_
            refine Ev_iconst (v := 1) (pc := 21) d_LW_unit_21 (by decide) ?_
            refine Ev_ireturn (pc := 22) d_LW_unit_22 rfl rfl ?_
            simp only [f_LW_unit, if_neg q1, if_neg q2, if_neg q3, if_neg q4, if_neg q5] at k
            exact k
def f_LW_antigen (h : ev_H) (x1 : Int32) (x2 : Int32) (x3 : Int32) : Int32 × ev_H := ((if (f_TB_isBelow x1 (gI h 0 0 3)) = 0 then 1 else (if (f_TB_isBelow x2 8) = 0 then 2 else (if x3 < 0 then 2 else (if x3 ≤ 2 then (if (gI h 1 x1.toNatClampNeg 8) = 0 then 0 else 3) else 2)))), (if (f_TB_isBelow x1 (gI h 0 0 3)) = 0 then (nx h) else (if (f_TB_isBelow x2 8) = 0 then (nx h) else (if x3 < 0 then (nx h) else (if x3 ≤ 2 then (if (gI h 1 x1.toNatClampNeg 8) = 0 then (f_UN_setAntigen h x1.toNatClampNeg x2 x3) else (nx h)) else (nx h))))))
theorem c_LW_antigen {E : ev_E} {P : Option ev_V ⊕ Nat → ev_H → Prop} {h : ev_H} {x1 : Int32} {x2 : Int32} {x3 : Int32} (hU : uok h) (hR : rfs h) (hZ : cZ h < ZM) (k : P (.inl (some (vI (f_LW_antigen h x1 x2 x3).1))) (f_LW_antigen h x1 x2 x3).2) : Ev E M_LW_antigen 0 [(0, vR 0 0), (1, vI x1), (2, vI x2), (3, vI x3)] [] h P := by
  refine Ev_aload_n (pc := 0) d_LW_antigen_0 rfl ?_
  refine Ev_iload_n (pc := 1) d_LW_antigen_1 rfl ?_
  refine Ev_iload_n (pc := 2) d_LW_antigen_2 rfl ?_
  refine Ev_iload_n (pc := 3) d_LW_antigen_3 rfl ?_
  refine Ev_callV (M' := M_TB_antigen) (as := [vI x1, vI x2, vI x3]) (st := []) (a := 0) (i := 0) (pc := 4) d_LW_antigen_4 rfl rfl rfl rfl rfl rfl rfl v_TB_antigen lk_LW_21 rfl rfl (c_TB_antigen hU hR hZ ?_)
  rw [f_TB_antigen]
  by_cases q1 : (f_TB_isBelow x1 (gI h 0 0 3)) = 0
  · rw [if_pos q1]
    refine Or.inr ⟨rfl, rfl, 10, rfl, fun xq => ?_⟩
    refine Ev_astore (pc := 10) d_LW_antigen_10 rfl ?_
    refine Ev_iconst (v := 1) (pc := 12) d_LW_antigen_12 (by decide) ?_
    refine Ev_ireturn (pc := 13) d_LW_antigen_13 rfl rfl ?_
    simp only [f_LW_antigen, if_pos q1] at k
    exact k
  · rw [if_neg q1]
    by_cases q2 : (f_TB_isBelow x2 8) = 0
    · rw [if_pos q2]
      refine Or.inr ⟨rfl, rfl, 14, rfl, fun xq => ?_⟩
      refine Ev_astore (pc := 14) d_LW_antigen_14 rfl ?_
      refine Ev_iconst (v := 2) (pc := 16) d_LW_antigen_16 (by decide) ?_
      refine Ev_ireturn (pc := 17) d_LW_antigen_17 rfl rfl ?_
      simp only [f_LW_antigen, if_neg q1, if_pos q2] at k
      exact k
    · rw [if_neg q2]
      by_cases q3 : x3 < 0
      · rw [if_pos q3]
        refine Or.inr ⟨rfl, rfl, 14, rfl, fun xq => ?_⟩
        refine Ev_astore (pc := 14) d_LW_antigen_14 rfl ?_
        refine Ev_iconst (v := 2) (pc := 16) d_LW_antigen_16 (by decide) ?_
        refine Ev_ireturn (pc := 17) d_LW_antigen_17 rfl rfl ?_
        simp only [f_LW_antigen, if_neg q1, if_neg q2, if_pos q3] at k
        exact k
      · rw [if_neg q3]
        by_cases q4 : x3 ≤ 2
        · rw [if_pos q4]
          by_cases q5 : (gI h 1 x1.toNatClampNeg 8) = 0
          · rw [if_pos q5]
            refine Ev_goto (tgt := 22) (pc := 7) d_LW_antigen_7 rfl ?_
            refine Ev_iconst (v := 0) (pc := 22) d_LW_antigen_22 (by decide) ?_
            refine Ev_ireturn (pc := 23) d_LW_antigen_23 rfl rfl ?_
            simp only [f_LW_antigen, if_neg q1, if_neg q2, if_neg q3, if_pos q4, if_pos q5] at k
            exact k
          · rw [if_neg q5]
            refine Or.inr ⟨rfl, rfl, 18, rfl, fun xq => ?_⟩
            refine Ev_astore (pc := 18) d_LW_antigen_18 rfl ?_
            refine Ev_iconst (v := 3) (pc := 20) d_LW_antigen_20 (by decide) ?_
            refine Ev_ireturn (pc := 21) d_LW_antigen_21 rfl rfl ?_
            simp only [f_LW_antigen, if_neg q1, if_neg q2, if_neg q3, if_pos q4, if_neg q5] at k
            exact k
        · rw [if_neg q4]
          refine Or.inr ⟨rfl, rfl, 14, rfl, fun xq => ?_⟩
          refine Ev_astore (pc := 14) d_LW_antigen_14 rfl ?_
          refine Ev_iconst (v := 2) (pc := 16) d_LW_antigen_16 (by decide) ?_
          refine Ev_ireturn (pc := 17) d_LW_antigen_17 rfl rfl ?_
          simp only [f_LW_antigen, if_neg q1, if_neg q2, if_neg q3, if_neg q4] at k
          exact k
def f_LW_process (h : ev_H) (x1 : Int32) (x2 : Int32) : Int32 × ev_H := ((if (f_TB_isBelow x1 (gI h 0 0 3)) = 0 then 1 else (if (f_TB_isBelow x2 4) = 0 then 2 else (if (f_TB_isReady h x1.toNatClampNeg) = 0 then 3 else (if (f_TB_hasRoomFor h (m_TB_process_42 x1 x2)) = 0 then 3 else (if (f_TB_suits x2 (gI h 1 x1.toNatClampNeg 0)) = 0 then 4 else 0))))), (if (f_TB_isBelow x1 (gI h 0 0 3)) = 0 then (nx h) else (if (f_TB_isBelow x2 4) = 0 then (nx h) else (if (f_TB_isReady h x1.toNatClampNeg) = 0 then (nx h) else (if (f_TB_hasRoomFor h (m_TB_process_42 x1 x2)) = 0 then (nx h) else (if (f_TB_suits x2 (gI h 1 x1.toNatClampNeg 0)) = 0 then (nx h) else (if x2 = 0 then (sL ((f_TB_keepSplitProducts (sI h 1 x1.toNatClampNeg 8 5) x1.toNatClampNeg).2) 0 27 0 (((f_TB_keepSplitProducts (sI h 1 x1.toNatClampNeg 8 5) x1.toNatClampNeg).1).toInt64)) else (sL (hp_TB_process_118 h x1 x2) 0 27 0 (((f_TB_keepProduct (sI h 1 x1.toNatClampNeg 8 5) x1.toNatClampNeg (gI (sI h 1 x1.toNatClampNeg 8 5) 1 x1.toNatClampNeg 0) (tab 1 x2.toNatClampNeg) ((gI (sI h 1 x1.toNatClampNeg 8 5) 0 0 5) + (tab 2 x2.toNatClampNeg))).1).toInt64)))))))))
theorem c_LW_process {E : ev_E} {P : Option ev_V ⊕ Nat → ev_H → Prop} {h : ev_H} {x1 : Int32} {x2 : Int32} (hU : uok h) (hR : rfs h) (hZ : cZ h < ZM) (n3 : cZ (sI h 1 x1.toNatClampNeg 8 5) < ZM) (n4 : ¬ (gI h 0 0 3) < 0) (n5 : (¬ ((f_TB_isBelow x1 (gI h 0 0 3)) = 0)) → (¬ ((f_TB_isBelow x2 4) = 0)) → (¬ ((f_TB_isReady h x1.toNatClampNeg) = 0)) → ((¬ ((f_TB_hasRoomFor h (m_TB_process_42 x1 x2)) = 0)) → (¬ ((f_TB_suits x2 (gI h 1 x1.toNatClampNeg 0)) = 0)) → (¬ (x2 = 0)) → (gI h 0 0 3).toNatClampNeg < 48)) (n6 : (¬ ((f_TB_isBelow x1 (gI h 0 0 3)) = 0)) → (¬ ((f_TB_isBelow x2 4) = 0)) → (¬ ((f_TB_isReady h x1.toNatClampNeg) = 0)) → ((¬ ((f_TB_hasRoomFor h (m_TB_process_42 x1 x2)) = 0)) → (¬ ((f_TB_suits x2 (gI h 1 x1.toNatClampNeg 0)) = 0)) → (x2 = 0) → (gI h 0 0 3).toNatClampNeg < 48)) (n7 : cZ ((f_TB_keepProduct (sI h 1 x1.toNatClampNeg 8 5) x1.toNatClampNeg 0 0 (gI (sI h 1 x1.toNatClampNeg 8 5) 1 x1.toNatClampNeg 4)).2) < ZM) (n8 : ¬ (gI ((f_TB_keepProduct (sI h 1 x1.toNatClampNeg 8 5) x1.toNatClampNeg 0 0 (gI (sI h 1 x1.toNatClampNeg 8 5) 1 x1.toNatClampNeg 4)).2) 0 0 3) < 0) (n9 : (¬ ((f_TB_isBelow x1 (gI h 0 0 3)) = 0)) → (¬ ((f_TB_isBelow x2 4) = 0)) → (¬ ((f_TB_isReady h x1.toNatClampNeg) = 0)) → ((¬ ((f_TB_hasRoomFor h (m_TB_process_42 x1 x2)) = 0)) → (¬ ((f_TB_suits x2 (gI h 1 x1.toNatClampNeg 0)) = 0)) → (x2 = 0) → (gI ((f_TB_keepProduct (sI h 1 x1.toNatClampNeg 8 5) x1.toNatClampNeg 0 0 (gI (sI h 1 x1.toNatClampNeg 8 5) 1 x1.toNatClampNeg 4)).2) 0 0 3).toNatClampNeg < 48)) (n10 : cZ ((f_TB_keepProduct ((f_TB_keepProduct (sI h 1 x1.toNatClampNeg 8 5) x1.toNatClampNeg 0 0 (gI (sI h 1 x1.toNatClampNeg 8 5) 1 x1.toNatClampNeg 4)).2) x1.toNatClampNeg 1 0 (gI ((f_TB_keepProduct (sI h 1 x1.toNatClampNeg 8 5) x1.toNatClampNeg 0 0 (gI (sI h 1 x1.toNatClampNeg 8 5) 1 x1.toNatClampNeg 4)).2) 1 x1.toNatClampNeg 4)).2) < ZM) (n11 : ¬ (gI ((f_TB_keepProduct ((f_TB_keepProduct (sI h 1 x1.toNatClampNeg 8 5) x1.toNatClampNeg 0 0 (gI (sI h 1 x1.toNatClampNeg 8 5) 1 x1.toNatClampNeg 4)).2) x1.toNatClampNeg 1 0 (gI ((f_TB_keepProduct (sI h 1 x1.toNatClampNeg 8 5) x1.toNatClampNeg 0 0 (gI (sI h 1 x1.toNatClampNeg 8 5) 1 x1.toNatClampNeg 4)).2) 1 x1.toNatClampNeg 4)).2) 0 0 3) < 0) (n12 : (¬ ((f_TB_isBelow x1 (gI h 0 0 3)) = 0)) → (¬ ((f_TB_isBelow x2 4) = 0)) → (¬ ((f_TB_isReady h x1.toNatClampNeg) = 0)) → ((¬ ((f_TB_hasRoomFor h (m_TB_process_42 x1 x2)) = 0)) → (¬ ((f_TB_suits x2 (gI h 1 x1.toNatClampNeg 0)) = 0)) → (x2 = 0) → (gI ((f_TB_keepProduct ((f_TB_keepProduct (sI h 1 x1.toNatClampNeg 8 5) x1.toNatClampNeg 0 0 (gI (sI h 1 x1.toNatClampNeg 8 5) 1 x1.toNatClampNeg 4)).2) x1.toNatClampNeg 1 0 (gI ((f_TB_keepProduct (sI h 1 x1.toNatClampNeg 8 5) x1.toNatClampNeg 0 0 (gI (sI h 1 x1.toNatClampNeg 8 5) 1 x1.toNatClampNeg 4)).2) 1 x1.toNatClampNeg 4)).2) 0 0 3).toNatClampNeg < 48)) (k : P (.inl (some (vI (f_LW_process h x1 x2).1))) (f_LW_process h x1 x2).2) : Ev E M_LW_process 0 [(0, vR 0 0), (1, vI x1), (2, vI x2), (3, vR 0 27)] [] h P := by
  refine Ev_aload_n (pc := 0) d_LW_process_0 rfl ?_
  refine Ev_iconst (v := 0) (pc := 1) d_LW_process_1 (by decide) ?_
  refine Ev_aload_n (pc := 2) d_LW_process_2 rfl ?_
  refine Ev_iload_n (pc := 3) d_LW_process_3 rfl ?_
  refine Ev_iload_n (pc := 4) d_LW_process_4 rfl ?_
  refine Ev_callV (M' := M_TB_process) (as := [vI x1, vI x2]) (st := [vI 0, vR 0 27]) (a := 0) (i := 0) (pc := 5) d_LW_process_5 rfl rfl rfl rfl rfl rfl rfl v_TB_process lk_LW_27 rfl rfl (c_TB_process hU hR hZ n3 n4 n5 n6 n7 n8 n9 n10 n11 n12 ?_)
  rw [f_TB_process]
  by_cases q1 : (f_TB_isBelow x1 (gI h 0 0 3)) = 0
  · rw [if_pos q1]
    refine Or.inr ⟨rfl, rfl, 13, rfl, fun xq => ?_⟩
    refine Ev_astore (pc := 13) d_LW_process_13 rfl ?_
    refine Ev_iconst (v := 1) (pc := 15) d_LW_process_15 (by decide) ?_
    refine Ev_ireturn (pc := 16) d_LW_process_16 rfl rfl ?_
    simp only [f_LW_process, if_pos q1] at k
    exact k
  · rw [if_neg q1]
    by_cases q2 : (f_TB_isBelow x2 4) = 0
    · rw [if_pos q2]
      refine Or.inr ⟨rfl, rfl, 17, rfl, fun xq => ?_⟩
      refine Ev_astore (pc := 17) d_LW_process_17 rfl ?_
      refine Ev_iconst (v := 2) (pc := 19) d_LW_process_19 (by decide) ?_
      refine Ev_ireturn (pc := 20) d_LW_process_20 rfl rfl ?_
      simp only [f_LW_process, if_neg q1, if_pos q2] at k
      exact k
    · rw [if_neg q2]
      by_cases q3 : (f_TB_isReady h x1.toNatClampNeg) = 0
      · rw [if_pos q3]
        refine Or.inr ⟨rfl, rfl, 21, rfl, fun xq => ?_⟩
        refine Ev_astore (pc := 21) d_LW_process_21 rfl ?_
        refine Ev_iconst (v := 3) (pc := 23) d_LW_process_23 (by decide) ?_
        refine Ev_ireturn (pc := 24) d_LW_process_24 rfl rfl ?_
        simp only [f_LW_process, if_neg q1, if_neg q2, if_pos q3] at k
        exact k
      · rw [if_neg q3]
        rw [f_TB_process_42]
        by_cases q4 : (f_TB_hasRoomFor h (m_TB_process_42 x1 x2)) = 0
        · rw [if_pos q4]
          refine Or.inr ⟨rfl, rfl, 21, rfl, fun xq => ?_⟩
          refine Ev_astore (pc := 21) d_LW_process_21 rfl ?_
          refine Ev_iconst (v := 3) (pc := 23) d_LW_process_23 (by decide) ?_
          refine Ev_ireturn (pc := 24) d_LW_process_24 rfl rfl ?_
          simp only [f_LW_process, if_neg q1, if_neg q2, if_neg q3, if_pos q4] at k
          exact k
        · rw [if_neg q4]
          by_cases q5 : (f_TB_suits x2 (gI h 1 x1.toNatClampNeg 0)) = 0
          · rw [if_pos q5]
            refine Or.inr ⟨rfl, rfl, 25, rfl, fun xq => ?_⟩
            refine Ev_astore (pc := 25) d_LW_process_25 rfl ?_
            refine Ev_iconst (v := 4) (pc := 27) d_LW_process_27 (by decide) ?_
            refine Ev_ireturn (pc := 28) d_LW_process_28 rfl rfl ?_
            simp only [f_LW_process, if_neg q1, if_neg q2, if_neg q3, if_neg q4, if_pos q5] at k
            exact k
          · rw [if_neg q5]
            by_cases q6 : x2 = 0
            · rw [if_pos q6]
              refine Ev_i2l (pc := 8) d_LW_process_8 ?_
              refine Ev_last (pc := 9) d_LW_process_9 rfl rfl (by decide) (by decide) ?_
              refine Ev_goto (tgt := 29) (pc := 10) d_LW_process_10 rfl ?_
              refine Ev_iconst (v := 0) (pc := 29) d_LW_process_29 (by decide) ?_
              refine Ev_ireturn (pc := 30) d_LW_process_30 rfl rfl ?_
              simp only [f_LW_process, if_neg q1, if_neg q2, if_neg q3, if_neg q4, if_neg q5, if_pos q6] at k
              exact k
            · rw [if_neg q6]
              refine Ev_i2l (pc := 8) d_LW_process_8 ?_
              refine Ev_last (pc := 9) d_LW_process_9 rfl rfl (by decide) (by decide) ?_
              refine Ev_goto (tgt := 29) (pc := 10) d_LW_process_10 rfl ?_
              refine Ev_iconst (v := 0) (pc := 29) d_LW_process_29 (by decide) ?_
              refine Ev_ireturn (pc := 30) d_LW_process_30 rfl rfl ?_
              simp only [f_LW_process, if_neg q1, if_neg q2, if_neg q3, if_neg q4, if_neg q5, if_neg q6] at k
              exact k
def f_LW_pool (h : ev_H) (x1 : Int32) (x2 : Int32) : Int32 × ev_H := ((if (f_TB_isBelow x1 (gI h 0 0 3)) = 0 then 1 else (if (f_TB_isBelow x2 (gI h 0 0 3)) = 0 then 1 else (if x1 = x2 then 2 else (if (f_TB_isReady h x1.toNatClampNeg) = 0 then 3 else (if (f_TB_isReady h x2.toNatClampNeg) = 0 then 3 else (if (f_TB_hasRoomFor h 1) = 0 then 3 else (if (gI h 1 x1.toNatClampNeg 0) = 2 then (if (gI h 1 x2.toNatClampNeg 0) = 2 then (if (gI h 1 x1.toNatClampNeg 1) = (gI h 1 x2.toNatClampNeg 1) then (if (gI h 1 x1.toNatClampNeg 2) = (gI h 1 x2.toNatClampNeg 2) then 0 else 4) else 4) else 4) else 4))))))), (if (f_TB_isBelow x1 (gI h 0 0 3)) = 0 then (nx h) else (if (f_TB_isBelow x2 (gI h 0 0 3)) = 0 then (nx h) else (if x1 = x2 then (nx h) else (if (f_TB_isReady h x1.toNatClampNeg) = 0 then (nx h) else (if (f_TB_isReady h x2.toNatClampNeg) = 0 then (nx h) else (if (f_TB_hasRoomFor h 1) = 0 then (nx h) else (if (gI h 1 x1.toNatClampNeg 0) = 2 then (if (gI h 1 x2.toNatClampNeg 0) = 2 then (if (gI h 1 x1.toNatClampNeg 1) = (gI h 1 x2.toNatClampNeg 1) then (if (gI h 1 x1.toNatClampNeg 2) = (gI h 1 x2.toNatClampNeg 2) then (sL ((f_TB_keepPooled (sI (sI h 1 x1.toNatClampNeg 8 5) 1 x2.toNatClampNeg 8 5) x1.toNatClampNeg x2.toNatClampNeg).2) 0 27 0 (((f_TB_keepPooled (sI (sI h 1 x1.toNatClampNeg 8 5) 1 x2.toNatClampNeg 8 5) x1.toNatClampNeg x2.toNatClampNeg).1).toInt64)) else (nx h)) else (nx h)) else (nx h)) else (nx h)))))))))
theorem c_LW_pool {E : ev_E} {P : Option ev_V ⊕ Nat → ev_H → Prop} {h : ev_H} {x1 : Int32} {x2 : Int32} (hU : uok h) (hR : rfs h) (hZ : cZ h < ZM) (n3 : cZ (sI (sI h 1 x1.toNatClampNeg 8 5) 1 x2.toNatClampNeg 8 5) < ZM) (n4 : ¬ (gI h 0 0 3) < 0) (n5 : (¬ ((f_TB_isBelow x1 (gI h 0 0 3)) = 0)) → (¬ ((f_TB_isBelow x2 (gI h 0 0 3)) = 0)) → (¬ (x1 = x2)) → (¬ ((f_TB_isReady h x1.toNatClampNeg) = 0)) → (¬ ((f_TB_isReady h x2.toNatClampNeg) = 0)) → (¬ ((f_TB_hasRoomFor h 1) = 0)) → ((gI h 1 x1.toNatClampNeg 0) = 2) → ((gI h 1 x2.toNatClampNeg 0) = 2) → ((gI h 1 x1.toNatClampNeg 1) = (gI h 1 x2.toNatClampNeg 1)) → ((gI h 1 x1.toNatClampNeg 2) = (gI h 1 x2.toNatClampNeg 2)) → (gI h 0 0 3).toNatClampNeg < 48) (k : P (.inl (some (vI (f_LW_pool h x1 x2).1))) (f_LW_pool h x1 x2).2) : Ev E M_LW_pool 0 [(0, vR 0 0), (1, vI x1), (2, vI x2), (3, vR 0 27)] [] h P := by
  refine Ev_aload_n (pc := 0) d_LW_pool_0 rfl ?_
  refine Ev_iconst (v := 0) (pc := 1) d_LW_pool_1 (by decide) ?_
  refine Ev_aload_n (pc := 2) d_LW_pool_2 rfl ?_
  refine Ev_iload_n (pc := 3) d_LW_pool_3 rfl ?_
  refine Ev_iload_n (pc := 4) d_LW_pool_4 rfl ?_
  refine Ev_callV (M' := M_TB_pool) (as := [vI x1, vI x2]) (st := [vI 0, vR 0 27]) (a := 0) (i := 0) (pc := 5) d_LW_pool_5 rfl rfl rfl rfl rfl rfl rfl v_TB_pool lk_LW_33 rfl rfl (c_TB_pool hU hR hZ n3 n4 n5 ?_)
  rw [f_TB_pool]
  by_cases q1 : (f_TB_isBelow x1 (gI h 0 0 3)) = 0
  · rw [if_pos q1]
    refine Or.inr ⟨rfl, rfl, 13, rfl, fun xq => ?_⟩
    refine Ev_astore (pc := 13) d_LW_pool_13 rfl ?_
    refine Ev_iconst (v := 1) (pc := 15) d_LW_pool_15 (by decide) ?_
    refine Ev_ireturn (pc := 16) d_LW_pool_16 rfl rfl ?_
    simp only [f_LW_pool, if_pos q1] at k
    exact k
  · rw [if_neg q1]
    by_cases q2 : (f_TB_isBelow x2 (gI h 0 0 3)) = 0
    · rw [if_pos q2]
      refine Or.inr ⟨rfl, rfl, 13, rfl, fun xq => ?_⟩
      refine Ev_astore (pc := 13) d_LW_pool_13 rfl ?_
      refine Ev_iconst (v := 1) (pc := 15) d_LW_pool_15 (by decide) ?_
      refine Ev_ireturn (pc := 16) d_LW_pool_16 rfl rfl ?_
      simp only [f_LW_pool, if_neg q1, if_pos q2] at k
      exact k
    · rw [if_neg q2]
      by_cases q3 : x1 = x2
      · rw [if_pos q3]
        refine Or.inr ⟨rfl, rfl, 17, rfl, fun xq => ?_⟩
        refine Ev_astore (pc := 17) d_LW_pool_17 rfl ?_
        refine Ev_iconst (v := 2) (pc := 19) d_LW_pool_19 (by decide) ?_
        refine Ev_ireturn (pc := 20) d_LW_pool_20 rfl rfl ?_
        simp only [f_LW_pool, if_neg q1, if_neg q2, if_pos q3] at k
        exact k
      · rw [if_neg q3]
        by_cases q4 : (f_TB_isReady h x1.toNatClampNeg) = 0
        · rw [if_pos q4]
          refine Or.inr ⟨rfl, rfl, 21, rfl, fun xq => ?_⟩
          refine Ev_astore (pc := 21) d_LW_pool_21 rfl ?_
          refine Ev_iconst (v := 3) (pc := 23) d_LW_pool_23 (by decide) ?_
          refine Ev_ireturn (pc := 24) d_LW_pool_24 rfl rfl ?_
          simp only [f_LW_pool, if_neg q1, if_neg q2, if_neg q3, if_pos q4] at k
          exact k
        · rw [if_neg q4]
          by_cases q5 : (f_TB_isReady h x2.toNatClampNeg) = 0
          · rw [if_pos q5]
            refine Or.inr ⟨rfl, rfl, 21, rfl, fun xq => ?_⟩
            refine Ev_astore (pc := 21) d_LW_pool_21 rfl ?_
            refine Ev_iconst (v := 3) (pc := 23) d_LW_pool_23 (by decide) ?_
            refine Ev_ireturn (pc := 24) d_LW_pool_24 rfl rfl ?_
            simp only [f_LW_pool, if_neg q1, if_neg q2, if_neg q3, if_neg q4, if_pos q5] at k
            exact k
          · rw [if_neg q5]
            by_cases q6 : (f_TB_hasRoomFor h 1) = 0
            · rw [if_pos q6]
              refine Or.inr ⟨rfl, rfl, 21, rfl, fun xq => ?_⟩
              refine Ev_astore (pc := 21) d_LW_pool_21 rfl ?_
              refine Ev_iconst (v := 3) (pc := 23) d_LW_pool_23 (by decide) ?_
              refine Ev_ireturn (pc := 24) d_LW_pool_24 rfl rfl ?_
              simp only [f_LW_pool, if_neg q1, if_neg q2, if_neg q3, if_neg q4, if_neg q5, if_pos q6] at k
              exact k
            · rw [if_neg q6]
              by_cases q7 : (gI h 1 x1.toNatClampNeg 0) = 2
              · rw [if_pos q7]
                by_cases q8 : (gI h 1 x2.toNatClampNeg 0) = 2
                · rw [if_pos q8]
                  by_cases q9 : (gI h 1 x1.toNatClampNeg 1) = (gI h 1 x2.toNatClampNeg 1)
                  · rw [if_pos q9]
                    by_cases q10 : (gI h 1 x1.toNatClampNeg 2) = (gI h 1 x2.toNatClampNeg 2)
                    · rw [if_pos q10]
                      refine Ev_i2l (pc := 8) d_LW_pool_8 ?_
                      refine Ev_last (pc := 9) d_LW_pool_9 rfl rfl (by decide) (by decide) ?_
                      refine Ev_goto (tgt := 29) (pc := 10) d_LW_pool_10 rfl ?_
                      refine Ev_iconst (v := 0) (pc := 29) d_LW_pool_29 (by decide) ?_
                      refine Ev_ireturn (pc := 30) d_LW_pool_30 rfl rfl ?_
                      simp only [f_LW_pool, if_neg q1, if_neg q2, if_neg q3, if_neg q4, if_neg q5, if_neg q6, if_pos q7, if_pos q8, if_pos q9, if_pos q10] at k
                      exact k
                    · rw [if_neg q10]
                      refine Or.inr ⟨rfl, rfl, 25, rfl, fun xq => ?_⟩
                      refine Ev_astore (pc := 25) d_LW_pool_25 rfl ?_
                      refine Ev_iconst (v := 4) (pc := 27) d_LW_pool_27 (by decide) ?_
                      refine Ev_ireturn (pc := 28) d_LW_pool_28 rfl rfl ?_
                      simp only [f_LW_pool, if_neg q1, if_neg q2, if_neg q3, if_neg q4, if_neg q5, if_neg q6, if_pos q7, if_pos q8, if_pos q9, if_neg q10] at k
                      exact k
                  · rw [if_neg q9]
                    refine Or.inr ⟨rfl, rfl, 25, rfl, fun xq => ?_⟩
                    refine Ev_astore (pc := 25) d_LW_pool_25 rfl ?_
                    refine Ev_iconst (v := 4) (pc := 27) d_LW_pool_27 (by decide) ?_
                    refine Ev_ireturn (pc := 28) d_LW_pool_28 rfl rfl ?_
                    simp only [f_LW_pool, if_neg q1, if_neg q2, if_neg q3, if_neg q4, if_neg q5, if_neg q6, if_pos q7, if_pos q8, if_neg q9] at k
                    exact k
                · rw [if_neg q8]
                  refine Or.inr ⟨rfl, rfl, 25, rfl, fun xq => ?_⟩
                  refine Ev_astore (pc := 25) d_LW_pool_25 rfl ?_
                  refine Ev_iconst (v := 4) (pc := 27) d_LW_pool_27 (by decide) ?_
                  refine Ev_ireturn (pc := 28) d_LW_pool_28 rfl rfl ?_
                  simp only [f_LW_pool, if_neg q1, if_neg q2, if_neg q3, if_neg q4, if_neg q5, if_neg q6, if_pos q7, if_neg q8] at k
                  exact k
              · rw [if_neg q7]
                refine Or.inr ⟨rfl, rfl, 25, rfl, fun xq => ?_⟩
                refine Ev_astore (pc := 25) d_LW_pool_25 rfl ?_
                refine Ev_iconst (v := 4) (pc := 27) d_LW_pool_27 (by decide) ?_
                refine Ev_ireturn (pc := 28) d_LW_pool_28 rfl rfl ?_
                simp only [f_LW_pool, if_neg q1, if_neg q2, if_neg q3, if_neg q4, if_neg q5, if_neg q6, if_neg q7] at k
                exact k
def f_LW_patient (h : ev_H) : Int32 × ev_H := ((if (gI h 0 0 4) < 10 then 0 else 1), (if (gI h 0 0 4) < 10 then (sL (hp_TB_patient_45 h) 0 27 0 (((gI (hp_TB_patient_45 h) 0 0 4) - 1).toInt64)) else (nx h)))
theorem c_LW_patient {E : ev_E} {P : Option ev_V ⊕ Nat → ev_H → Prop} {h : ev_H} (hR : rfs h) (hZ : cZ h < ZM) (n2 : cZ h + 2 ≤ ZM) (n3 : cN (nw h 2) = (cP h)) (n4 : ∀ b, b < 48 → gR (r_PA_init_L29 (sR (nw (sI (sI (sI (nw h 2) 2 (cP h) 0 0) 2 (cP h) 1 (-1)) 2 (cP h) 2 (-1)) 3) 2 (cP h) 6 (vR 3 (cP h))) (cP h) b) 2 (cP h) 6 = vR 3 (cP h)) (n5 : ¬ (gI h 0 0 4) < 0) (n6 : ((gI h 0 0 4) < 10) → (gI h 0 0 4).toNatClampNeg < 10) (k : P (.inl (some (vI (f_LW_patient h).1))) (f_LW_patient h).2) : Ev E M_LW_patient 0 [(0, vR 0 0), (1, vR 0 27)] [] h P := by
  refine Ev_aload_n (pc := 0) d_LW_patient_0 rfl ?_
  refine Ev_iconst (v := 0) (pc := 1) d_LW_patient_1 (by decide) ?_
  refine Ev_aload_n (pc := 2) d_LW_patient_2 rfl ?_
  refine Ev_callV (M' := M_TB_patient) (as := []) (st := [vI 0, vR 0 27]) (a := 0) (i := 0) (pc := 3) d_LW_patient_3 rfl rfl rfl rfl rfl rfl rfl v_TB_patient lk_LW_36 rfl rfl (c_TB_patient hR hZ n2 n3 n4 n5 n6 ?_)
  rw [f_TB_patient]
  by_cases q1 : (gI h 0 0 4) < 10
  · rw [if_pos q1]
    refine Ev_i2l (pc := 6) d_LW_patient_6 ?_
    refine Ev_last (pc := 7) d_LW_patient_7 rfl rfl (by decide) (by decide) ?_
    refine Ev_goto (tgt := 14) (pc := 8) d_LW_patient_8 rfl ?_
    refine Ev_iconst (v := 0) (pc := 14) d_LW_patient_14 (by decide) ?_
    refine Ev_ireturn (pc := 15) d_LW_patient_15 rfl rfl ?_
    simp only [f_LW_patient, if_pos q1] at k
    exact k
  · rw [if_neg q1]
    refine Or.inr ⟨rfl, rfl, 11, rfl, fun xq => ?_⟩
    refine Ev_astore_n (pc := 11) d_LW_patient_11 rfl ?_
    refine Ev_iconst (v := 1) (pc := 12) d_LW_patient_12 (by decide) ?_
    refine Ev_ireturn (pc := 13) d_LW_patient_13 rfl rfl ?_
    simp only [f_LW_patient, if_neg q1] at k
    exact k
def f_LW_sample (h : ev_H) (x1 : Int32) (x2 : Int32) (x3 : Int32) : Int32 × ev_H := ((if (f_TB_isBelow x1 (gI h 0 0 4)) = 0 then 1 else (if (f_TB_isBloodType x2 x3) = 0 then 2 else (if (gI h 2 x1.toNatClampNeg 0) = 2 then 3 else 0))), (if (f_TB_isBelow x1 (gI h 0 0 4)) = 0 then (nx h) else (if (f_TB_isBloodType x2 x3) = 0 then (nx h) else (if (gI h 2 x1.toNatClampNeg 0) = 2 then (nx h) else (sL (f_PA_takeSample h x1.toNatClampNeg x2 x3 (gI h 0 0 5)) 0 27 0 ((gI (f_PA_takeSample h x1.toNatClampNeg x2 x3 (gI h 0 0 5)) 2 x1.toNatClampNeg 0).toInt64))))))
theorem c_LW_sample {E : ev_E} {P : Option ev_V ⊕ Nat → ev_H → Prop} {h : ev_H} {x1 : Int32} {x2 : Int32} {x3 : Int32} (hP : pok h) (hR : rfs h) (hZ : cZ h < ZM) (k : P (.inl (some (vI (f_LW_sample h x1 x2 x3).1))) (f_LW_sample h x1 x2 x3).2) : Ev E M_LW_sample 0 [(0, vR 0 0), (1, vI x1), (2, vI x2), (3, vI x3), (4, vR 0 27)] [] h P := by
  refine Ev_aload (pc := 0) d_LW_sample_0 rfl ?_
  refine Ev_iconst (v := 0) (pc := 2) d_LW_sample_2 (by decide) ?_
  refine Ev_aload_n (pc := 3) d_LW_sample_3 rfl ?_
  refine Ev_iload_n (pc := 4) d_LW_sample_4 rfl ?_
  refine Ev_iload_n (pc := 5) d_LW_sample_5 rfl ?_
  refine Ev_iload_n (pc := 6) d_LW_sample_6 rfl ?_
  refine Ev_callV (M' := M_TB_sample) (as := [vI x1, vI x2, vI x3]) (st := [vI 0, vR 0 27]) (a := 0) (i := 0) (pc := 7) d_LW_sample_7 rfl rfl rfl rfl rfl rfl rfl v_TB_sample lk_LW_40 rfl rfl (c_TB_sample hP hR hZ ?_)
  rw [f_TB_sample]
  by_cases q1 : (f_TB_isBelow x1 (gI h 0 0 4)) = 0
  · rw [if_pos q1]
    refine Or.inr ⟨rfl, rfl, 15, rfl, fun xq => ?_⟩
    refine Ev_astore (pc := 15) d_LW_sample_15 rfl ?_
    refine Ev_iconst (v := 1) (pc := 17) d_LW_sample_17 (by decide) ?_
    refine Ev_ireturn (pc := 18) d_LW_sample_18 rfl rfl ?_
    simp only [f_LW_sample, if_pos q1] at k
    exact k
  · rw [if_neg q1]
    by_cases q2 : (f_TB_isBloodType x2 x3) = 0
    · rw [if_pos q2]
      refine Or.inr ⟨rfl, rfl, 19, rfl, fun xq => ?_⟩
      refine Ev_astore (pc := 19) d_LW_sample_19 rfl ?_
      refine Ev_iconst (v := 2) (pc := 21) d_LW_sample_21 (by decide) ?_
      refine Ev_ireturn (pc := 22) d_LW_sample_22 rfl rfl ?_
      simp only [f_LW_sample, if_neg q1, if_pos q2] at k
      exact k
    · rw [if_neg q2]
      by_cases q3 : (gI h 2 x1.toNatClampNeg 0) = 2
      · rw [if_pos q3]
        refine Or.inr ⟨rfl, rfl, 23, rfl, fun xq => ?_⟩
        refine Ev_astore (pc := 23) d_LW_sample_23 rfl ?_
        refine Ev_iconst (v := 3) (pc := 25) d_LW_sample_25 (by decide) ?_
        refine Ev_ireturn (pc := 26) d_LW_sample_26 rfl rfl ?_
        simp only [f_LW_sample, if_neg q1, if_neg q2, if_pos q3] at k
        exact k
      · rw [if_neg q3]
        refine Ev_i2l (pc := 10) d_LW_sample_10 ?_
        refine Ev_last (pc := 11) d_LW_sample_11 rfl rfl (by decide) (by decide) ?_
        refine Ev_goto (tgt := 27) (pc := 12) d_LW_sample_12 rfl ?_
        refine Ev_iconst (v := 0) (pc := 27) d_LW_sample_27 (by decide) ?_
        refine Ev_ireturn (pc := 28) d_LW_sample_28 rfl rfl ?_
        simp only [f_LW_sample, if_neg q1, if_neg q2, if_neg q3] at k
        exact k
def f_LW_unlock (h : ev_H) (x1 : Int32) (x2 : Int32) (x3 : Int32) : Int32 × ev_H := ((if (f_TB_isBelow x1 (gI h 0 0 4)) = 0 then 1 else (if (f_TB_isBloodType x2 x3) = 0 then 2 else (if (gI h 2 x1.toNatClampNeg 0) = 2 then 0 else 3))), (if (f_TB_isBelow x1 (gI h 0 0 4)) = 0 then (nx h) else (if (f_TB_isBloodType x2 x3) = 0 then (nx h) else (if (gI h 2 x1.toNatClampNeg 0) = 2 then (f_PA_confirm h x1.toNatClampNeg x2 x3) else (nx h)))))
theorem c_LW_unlock {E : ev_E} {P : Option ev_V ⊕ Nat → ev_H → Prop} {h : ev_H} {x1 : Int32} {x2 : Int32} {x3 : Int32} (hP : pok h) (hR : rfs h) (hZ : cZ h < ZM) (k : P (.inl (some (vI (f_LW_unlock h x1 x2 x3).1))) (f_LW_unlock h x1 x2 x3).2) : Ev E M_LW_unlock 0 [(0, vR 0 0), (1, vI x1), (2, vI x2), (3, vI x3)] [] h P := by
  refine Ev_aload_n (pc := 0) d_LW_unlock_0 rfl ?_
  refine Ev_iload_n (pc := 1) d_LW_unlock_1 rfl ?_
  refine Ev_iload_n (pc := 2) d_LW_unlock_2 rfl ?_
  refine Ev_iload_n (pc := 3) d_LW_unlock_3 rfl ?_
  refine Ev_callV (M' := M_TB_unlock) (as := [vI x1, vI x2, vI x3]) (st := []) (a := 0) (i := 0) (pc := 4) d_LW_unlock_4 rfl rfl rfl rfl rfl rfl rfl v_TB_unlock lk_LW_44 rfl rfl (c_TB_unlock hP hR hZ ?_)
  rw [f_TB_unlock]
  by_cases q1 : (f_TB_isBelow x1 (gI h 0 0 4)) = 0
  · rw [if_pos q1]
    refine Or.inr ⟨rfl, rfl, 10, rfl, fun xq => ?_⟩
    refine Ev_astore (pc := 10) d_LW_unlock_10 rfl ?_
    refine Ev_iconst (v := 1) (pc := 12) d_LW_unlock_12 (by decide) ?_
    refine Ev_ireturn (pc := 13) d_LW_unlock_13 rfl rfl ?_
    simp only [f_LW_unlock, if_pos q1] at k
    exact k
  · rw [if_neg q1]
    by_cases q2 : (f_TB_isBloodType x2 x3) = 0
    · rw [if_pos q2]
      refine Or.inr ⟨rfl, rfl, 14, rfl, fun xq => ?_⟩
      refine Ev_astore (pc := 14) d_LW_unlock_14 rfl ?_
      refine Ev_iconst (v := 2) (pc := 16) d_LW_unlock_16 (by decide) ?_
      refine Ev_ireturn (pc := 17) d_LW_unlock_17 rfl rfl ?_
      simp only [f_LW_unlock, if_neg q1, if_pos q2] at k
      exact k
    · rw [if_neg q2]
      by_cases q3 : (gI h 2 x1.toNatClampNeg 0) = 2
      · rw [if_pos q3]
        refine Ev_goto (tgt := 22) (pc := 7) d_LW_unlock_7 rfl ?_
        refine Ev_iconst (v := 0) (pc := 22) d_LW_unlock_22 (by decide) ?_
        refine Ev_ireturn (pc := 23) d_LW_unlock_23 rfl rfl ?_
        simp only [f_LW_unlock, if_neg q1, if_neg q2, if_pos q3] at k
        exact k
      · rw [if_neg q3]
        refine Or.inr ⟨rfl, rfl, 18, rfl, fun xq => ?_⟩
        refine Ev_astore (pc := 18) d_LW_unlock_18 rfl ?_
        refine Ev_iconst (v := 3) (pc := 20) d_LW_unlock_20 (by decide) ?_
        refine Ev_ireturn (pc := 21) d_LW_unlock_21 rfl rfl ?_
        simp only [f_LW_unlock, if_neg q1, if_neg q2, if_neg q3] at k
        exact k
def f_LW_antibody (h : ev_H) (x1 : Int32) (x2 : Int32) : Int32 × ev_H := ((if (f_TB_isBelow x1 (gI h 0 0 4)) = 0 then 1 else (if (f_TB_isBelow x2 8) = 0 then 2 else 0)), (if (f_TB_isBelow x1 (gI h 0 0 4)) = 0 then (nx h) else (if (f_TB_isBelow x2 8) = 0 then (nx h) else (sL (sI h 2 x1.toNatClampNeg 4 ((gI h 2 x1.toNatClampNeg 4) ||| (1 <<< (x2 &&& 31)))) 0 27 0 ((f_JI_bitCount (gI (sI h 2 x1.toNatClampNeg 4 ((gI h 2 x1.toNatClampNeg 4) ||| (1 <<< (x2 &&& 31)))) 2 x1.toNatClampNeg 4)).toInt64)))))
theorem c_LW_antibody {E : ev_E} {P : Option ev_V ⊕ Nat → ev_H → Prop} {h : ev_H} {x1 : Int32} {x2 : Int32} (hP : pok h) (hR : rfs h) (hZ : cZ h < ZM) (k : P (.inl (some (vI (f_LW_antibody h x1 x2).1))) (f_LW_antibody h x1 x2).2) : Ev E M_LW_antibody 0 [(0, vR 0 0), (1, vI x1), (2, vI x2), (3, vR 0 27)] [] h P := by
  refine Ev_aload_n (pc := 0) d_LW_antibody_0 rfl ?_
  refine Ev_iconst (v := 0) (pc := 1) d_LW_antibody_1 (by decide) ?_
  refine Ev_aload_n (pc := 2) d_LW_antibody_2 rfl ?_
  refine Ev_iload_n (pc := 3) d_LW_antibody_3 rfl ?_
  refine Ev_iload_n (pc := 4) d_LW_antibody_4 rfl ?_
  refine Ev_callV (M' := M_TB_antibody) (as := [vI x1, vI x2]) (st := [vI 0, vR 0 27]) (a := 0) (i := 0) (pc := 5) d_LW_antibody_5 rfl rfl rfl rfl rfl rfl rfl v_TB_antibody lk_LW_47 rfl rfl (c_TB_antibody hP hR hZ ?_)
  rw [f_TB_antibody]
  by_cases q1 : (f_TB_isBelow x1 (gI h 0 0 4)) = 0
  · rw [if_pos q1]
    refine Or.inr ⟨rfl, rfl, 13, rfl, fun xq => ?_⟩
    refine Ev_astore (pc := 13) d_LW_antibody_13 rfl ?_
    refine Ev_iconst (v := 1) (pc := 15) d_LW_antibody_15 (by decide) ?_
    refine Ev_ireturn (pc := 16) d_LW_antibody_16 rfl rfl ?_
    simp only [f_LW_antibody, if_pos q1] at k
    exact k
  · rw [if_neg q1]
    by_cases q2 : (f_TB_isBelow x2 8) = 0
    · rw [if_pos q2]
      refine Or.inr ⟨rfl, rfl, 17, rfl, fun xq => ?_⟩
      refine Ev_astore (pc := 17) d_LW_antibody_17 rfl ?_
      refine Ev_iconst (v := 2) (pc := 19) d_LW_antibody_19 (by decide) ?_
      refine Ev_ireturn (pc := 20) d_LW_antibody_20 rfl rfl ?_
      simp only [f_LW_antibody, if_neg q1, if_pos q2] at k
      exact k
    · rw [if_neg q2]
      refine Ev_i2l (pc := 8) d_LW_antibody_8 ?_
      refine Ev_last (pc := 9) d_LW_antibody_9 rfl rfl (by decide) (by decide) ?_
      refine Ev_goto (tgt := 21) (pc := 10) d_LW_antibody_10 rfl ?_
      refine Ev_iconst (v := 0) (pc := 21) d_LW_antibody_21 (by decide) ?_
      refine Ev_ireturn (pc := 22) d_LW_antibody_22 rfl rfl ?_
      simp only [f_LW_antibody, if_neg q1, if_neg q2] at k
      exact k
def f_LW_need (h : ev_H) (x1 : Int32) (x2 : Int32) : Int32 × ev_H := ((if (f_TB_isBelow x1 (gI h 0 0 4)) = 0 then 1 else (if x2 < 0 then 2 else (if x2 ≤ 7 then 0 else 2))), (if (f_TB_isBelow x1 (gI h 0 0 4)) = 0 then (nx h) else (if x2 < 0 then (nx h) else (if x2 ≤ 7 then (sL (sI h 2 x1.toNatClampNeg 5 x2) 0 27 0 ((gI h 2 x1.toNatClampNeg 5).toInt64)) else (nx h)))))
theorem c_LW_need {E : ev_E} {P : Option ev_V ⊕ Nat → ev_H → Prop} {h : ev_H} {x1 : Int32} {x2 : Int32} (hP : pok h) (hR : rfs h) (hZ : cZ h < ZM) (k : P (.inl (some (vI (f_LW_need h x1 x2).1))) (f_LW_need h x1 x2).2) : Ev E M_LW_need 0 [(0, vR 0 0), (1, vI x1), (2, vI x2), (3, vR 0 27)] [] h P := by
  refine Ev_aload_n (pc := 0) d_LW_need_0 rfl ?_
  refine Ev_iconst (v := 0) (pc := 1) d_LW_need_1 (by decide) ?_
  refine Ev_aload_n (pc := 2) d_LW_need_2 rfl ?_
  refine Ev_iload_n (pc := 3) d_LW_need_3 rfl ?_
  refine Ev_iload_n (pc := 4) d_LW_need_4 rfl ?_
  refine Ev_callV (M' := M_TB_need) (as := [vI x1, vI x2]) (st := [vI 0, vR 0 27]) (a := 0) (i := 0) (pc := 5) d_LW_need_5 rfl rfl rfl rfl rfl rfl rfl v_TB_need lk_LW_50 rfl rfl (c_TB_need hP hR hZ ?_)
  rw [f_TB_need]
  by_cases q1 : (f_TB_isBelow x1 (gI h 0 0 4)) = 0
  · rw [if_pos q1]
    refine Or.inr ⟨rfl, rfl, 13, rfl, fun xq => ?_⟩
    refine Ev_astore (pc := 13) d_LW_need_13 rfl ?_
    refine Ev_iconst (v := 1) (pc := 15) d_LW_need_15 (by decide) ?_
    refine Ev_ireturn (pc := 16) d_LW_need_16 rfl rfl ?_
    simp only [f_LW_need, if_pos q1] at k
    exact k
  · rw [if_neg q1]
    by_cases q2 : x2 < 0
    · rw [if_pos q2]
      refine Or.inr ⟨rfl, rfl, 17, rfl, fun xq => ?_⟩
      refine Ev_astore (pc := 17) d_LW_need_17 rfl ?_
      refine Ev_iconst (v := 2) (pc := 19) d_LW_need_19 (by decide) ?_
      refine Ev_ireturn (pc := 20) d_LW_need_20 rfl rfl ?_
      simp only [f_LW_need, if_neg q1, if_pos q2] at k
      exact k
    · rw [if_neg q2]
      by_cases q3 : x2 ≤ 7
      · rw [if_pos q3]
        refine Ev_i2l (pc := 8) d_LW_need_8 ?_
        refine Ev_last (pc := 9) d_LW_need_9 rfl rfl (by decide) (by decide) ?_
        refine Ev_goto (tgt := 21) (pc := 10) d_LW_need_10 rfl ?_
        refine Ev_iconst (v := 0) (pc := 21) d_LW_need_21 (by decide) ?_
        refine Ev_ireturn (pc := 22) d_LW_need_22 rfl rfl ?_
        simp only [f_LW_need, if_neg q1, if_neg q2, if_pos q3] at k
        exact k
      · rw [if_neg q3]
        refine Or.inr ⟨rfl, rfl, 17, rfl, fun xq => ?_⟩
        refine Ev_astore (pc := 17) d_LW_need_17 rfl ?_
        refine Ev_iconst (v := 2) (pc := 19) d_LW_need_19 (by decide) ?_
        refine Ev_ireturn (pc := 20) d_LW_need_20 rfl rfl ?_
        simp only [f_LW_need, if_neg q1, if_neg q2, if_neg q3] at k
        exact k
def f_LW_crossmatch (h : ev_H) (x1 : Int32) (x2 : Int32) (x3 : Int32) : Int32 × ev_H := ((if (f_TB_isBelow x1 (gI h 0 0 4)) = 0 then 1 else (if (f_TB_isBelow x2 (gI h 0 0 3)) = 0 then 1 else (if (f_UN_isInHouse h x2.toNatClampNeg) = 0 then 2 else (if (gI h 1 x2.toNatClampNeg 0) = 0 then 0 else 3)))), (if (f_TB_isBelow x1 (gI h 0 0 4)) = 0 then (nx h) else (if (f_TB_isBelow x2 (gI h 0 0 3)) = 0 then (nx h) else (if (f_UN_isInHouse h x2.toNatClampNeg) = 0 then (nx h) else (if (gI h 1 x2.toNatClampNeg 0) = 0 then (f_PA_noteCrossmatch h x1.toNatClampNeg x2 (m_TB_crossmatch_65 h x1 x2 x3)) else (nx h))))))
theorem c_LW_crossmatch {E : ev_E} {P : Option ev_V ⊕ Nat → ev_H → Prop} {h : ev_H} {x1 : Int32} {x2 : Int32} {x3 : Int32} (hP : pok h) (hR : rfs h) (hZ : cZ h < ZM) (hU : uok h) (k : P (.inl (some (vI (f_LW_crossmatch h x1 x2 x3).1))) (f_LW_crossmatch h x1 x2 x3).2) : Ev E M_LW_crossmatch 0 [(0, vR 0 0), (1, vI x1), (2, vI x2), (3, vI x3)] [] h P := by
  refine Ev_aload_n (pc := 0) d_LW_crossmatch_0 rfl ?_
  refine Ev_iload_n (pc := 1) d_LW_crossmatch_1 rfl ?_
  refine Ev_iload_n (pc := 2) d_LW_crossmatch_2 rfl ?_
  refine Ev_iload_n (pc := 3) d_LW_crossmatch_3 rfl ?_
  refine Ev_callV (M' := M_TB_crossmatch) (as := [vI x1, vI x2, vI x3]) (st := []) (a := 0) (i := 0) (pc := 4) d_LW_crossmatch_4 rfl rfl rfl rfl rfl rfl rfl v_TB_crossmatch lk_LW_53 rfl rfl (c_TB_crossmatch hP hR hZ hU ?_)
  rw [f_TB_crossmatch]
  by_cases q1 : (f_TB_isBelow x1 (gI h 0 0 4)) = 0
  · rw [if_pos q1]
    refine Or.inr ⟨rfl, rfl, 10, rfl, fun xq => ?_⟩
    refine Ev_astore (pc := 10) d_LW_crossmatch_10 rfl ?_
    refine Ev_iconst (v := 1) (pc := 12) d_LW_crossmatch_12 (by decide) ?_
    refine Ev_ireturn (pc := 13) d_LW_crossmatch_13 rfl rfl ?_
    simp only [f_LW_crossmatch, if_pos q1] at k
    exact k
  · rw [if_neg q1]
    by_cases q2 : (f_TB_isBelow x2 (gI h 0 0 3)) = 0
    · rw [if_pos q2]
      refine Or.inr ⟨rfl, rfl, 10, rfl, fun xq => ?_⟩
      refine Ev_astore (pc := 10) d_LW_crossmatch_10 rfl ?_
      refine Ev_iconst (v := 1) (pc := 12) d_LW_crossmatch_12 (by decide) ?_
      refine Ev_ireturn (pc := 13) d_LW_crossmatch_13 rfl rfl ?_
      simp only [f_LW_crossmatch, if_neg q1, if_pos q2] at k
      exact k
    · rw [if_neg q2]
      by_cases q3 : (f_UN_isInHouse h x2.toNatClampNeg) = 0
      · rw [if_pos q3]
        refine Or.inr ⟨rfl, rfl, 14, rfl, fun xq => ?_⟩
        refine Ev_astore (pc := 14) d_LW_crossmatch_14 rfl ?_
        refine Ev_iconst (v := 2) (pc := 16) d_LW_crossmatch_16 (by decide) ?_
        refine Ev_ireturn (pc := 17) d_LW_crossmatch_17 rfl rfl ?_
        simp only [f_LW_crossmatch, if_neg q1, if_neg q2, if_pos q3] at k
        exact k
      · rw [if_neg q3]
        by_cases q4 : (gI h 1 x2.toNatClampNeg 0) = 0
        · rw [if_pos q4]
          rw [f_TB_crossmatch_65]
          refine Ev_goto (tgt := 22) (pc := 7) d_LW_crossmatch_7 rfl ?_
          refine Ev_iconst (v := 0) (pc := 22) d_LW_crossmatch_22 (by decide) ?_
          refine Ev_ireturn (pc := 23) d_LW_crossmatch_23 rfl rfl ?_
          simp only [f_LW_crossmatch, if_neg q1, if_neg q2, if_neg q3, if_pos q4] at k
          exact k
        · rw [if_neg q4]
          refine Or.inr ⟨rfl, rfl, 18, rfl, fun xq => ?_⟩
          refine Ev_astore (pc := 18) d_LW_crossmatch_18 rfl ?_
          refine Ev_iconst (v := 3) (pc := 20) d_LW_crossmatch_20 (by decide) ?_
          refine Ev_ireturn (pc := 21) d_LW_crossmatch_21 rfl rfl ?_
          simp only [f_LW_crossmatch, if_neg q1, if_neg q2, if_neg q3, if_neg q4] at k
          exact k
def f_LW_reserve (h : ev_H) (x1 : Int32) (x2 : Int32) : Int32 × ev_H := ((if (f_TB_isBelow x1 (gI h 0 0 4)) = 0 then 1 else (if (f_TB_isBelow x2 (gI h 0 0 3)) = 0 then 1 else (if (f_TB_isReady h x2.toNatClampNeg) = 0 then 2 else (if (gI h 2 x1.toNatClampNeg 0) = 2 then 2 else (if (f_TB_isCleared h x1.toNatClampNeg x2.toNatClampNeg x2) = 0 then 3 else 0))))), (if (f_TB_isBelow x1 (gI h 0 0 4)) = 0 then (nx h) else (if (f_TB_isBelow x2 (gI h 0 0 3)) = 0 then (nx h) else (if (f_TB_isReady h x2.toNatClampNeg) = 0 then (nx h) else (if (gI h 2 x1.toNatClampNeg 0) = 2 then (nx h) else (if (f_TB_isCleared h x1.toNatClampNeg x2.toNatClampNeg x2) = 0 then (nx h) else (sL (f_UN_reserveFor h x2.toNatClampNeg x1 ((gI h 0 0 5) + 4320)) 0 27 0 ((gI (f_UN_reserveFor h x2.toNatClampNeg x1 ((gI h 0 0 5) + 4320)) 1 x2.toNatClampNeg 10).toInt64))))))))
theorem c_LW_reserve {E : ev_E} {P : Option ev_V ⊕ Nat → ev_H → Prop} {h : ev_H} {x1 : Int32} {x2 : Int32} (hP : pok h) (hR : rfs h) (hZ : cZ h < ZM) (hU : uok h) (k : P (.inl (some (vI (f_LW_reserve h x1 x2).1))) (f_LW_reserve h x1 x2).2) : Ev E M_LW_reserve 0 [(0, vR 0 0), (1, vI x1), (2, vI x2), (3, vR 0 27)] [] h P := by
  refine Ev_aload_n (pc := 0) d_LW_reserve_0 rfl ?_
  refine Ev_iconst (v := 0) (pc := 1) d_LW_reserve_1 (by decide) ?_
  refine Ev_aload_n (pc := 2) d_LW_reserve_2 rfl ?_
  refine Ev_iload_n (pc := 3) d_LW_reserve_3 rfl ?_
  refine Ev_iload_n (pc := 4) d_LW_reserve_4 rfl ?_
  refine Ev_callV (M' := M_TB_reserve) (as := [vI x1, vI x2]) (st := [vI 0, vR 0 27]) (a := 0) (i := 0) (pc := 5) d_LW_reserve_5 rfl rfl rfl rfl rfl rfl rfl v_TB_reserve lk_LW_57 rfl rfl (c_TB_reserve hP hR hZ hU ?_)
  rw [f_TB_reserve]
  by_cases q1 : (f_TB_isBelow x1 (gI h 0 0 4)) = 0
  · rw [if_pos q1]
    refine Or.inr ⟨rfl, rfl, 13, rfl, fun xq => ?_⟩
    refine Ev_astore (pc := 13) d_LW_reserve_13 rfl ?_
    refine Ev_iconst (v := 1) (pc := 15) d_LW_reserve_15 (by decide) ?_
    refine Ev_ireturn (pc := 16) d_LW_reserve_16 rfl rfl ?_
    simp only [f_LW_reserve, if_pos q1] at k
    exact k
  · rw [if_neg q1]
    by_cases q2 : (f_TB_isBelow x2 (gI h 0 0 3)) = 0
    · rw [if_pos q2]
      refine Or.inr ⟨rfl, rfl, 13, rfl, fun xq => ?_⟩
      refine Ev_astore (pc := 13) d_LW_reserve_13 rfl ?_
      refine Ev_iconst (v := 1) (pc := 15) d_LW_reserve_15 (by decide) ?_
      refine Ev_ireturn (pc := 16) d_LW_reserve_16 rfl rfl ?_
      simp only [f_LW_reserve, if_neg q1, if_pos q2] at k
      exact k
    · rw [if_neg q2]
      by_cases q3 : (f_TB_isReady h x2.toNatClampNeg) = 0
      · rw [if_pos q3]
        refine Or.inr ⟨rfl, rfl, 17, rfl, fun xq => ?_⟩
        refine Ev_astore (pc := 17) d_LW_reserve_17 rfl ?_
        refine Ev_iconst (v := 2) (pc := 19) d_LW_reserve_19 (by decide) ?_
        refine Ev_ireturn (pc := 20) d_LW_reserve_20 rfl rfl ?_
        simp only [f_LW_reserve, if_neg q1, if_neg q2, if_pos q3] at k
        exact k
      · rw [if_neg q3]
        by_cases q4 : (gI h 2 x1.toNatClampNeg 0) = 2
        · rw [if_pos q4]
          refine Or.inr ⟨rfl, rfl, 17, rfl, fun xq => ?_⟩
          refine Ev_astore (pc := 17) d_LW_reserve_17 rfl ?_
          refine Ev_iconst (v := 2) (pc := 19) d_LW_reserve_19 (by decide) ?_
          refine Ev_ireturn (pc := 20) d_LW_reserve_20 rfl rfl ?_
          simp only [f_LW_reserve, if_neg q1, if_neg q2, if_neg q3, if_pos q4] at k
          exact k
        · rw [if_neg q4]
          by_cases q5 : (f_TB_isCleared h x1.toNatClampNeg x2.toNatClampNeg x2) = 0
          · rw [if_pos q5]
            refine Or.inr ⟨rfl, rfl, 21, rfl, fun xq => ?_⟩
            refine Ev_astore (pc := 21) d_LW_reserve_21 rfl ?_
            refine Ev_iconst (v := 3) (pc := 23) d_LW_reserve_23 (by decide) ?_
            refine Ev_ireturn (pc := 24) d_LW_reserve_24 rfl rfl ?_
            simp only [f_LW_reserve, if_neg q1, if_neg q2, if_neg q3, if_neg q4, if_pos q5] at k
            exact k
          · rw [if_neg q5]
            refine Ev_i2l (pc := 8) d_LW_reserve_8 ?_
            refine Ev_last (pc := 9) d_LW_reserve_9 rfl rfl (by decide) (by decide) ?_
            refine Ev_goto (tgt := 25) (pc := 10) d_LW_reserve_10 rfl ?_
            refine Ev_iconst (v := 0) (pc := 25) d_LW_reserve_25 (by decide) ?_
            refine Ev_ireturn (pc := 26) d_LW_reserve_26 rfl rfl ?_
            simp only [f_LW_reserve, if_neg q1, if_neg q2, if_neg q3, if_neg q4, if_neg q5] at k
            exact k
def f_LW_release (h : ev_H) (x1 : Int32) : Int32 × ev_H := ((if (f_TB_isBelow x1 (gI h 0 0 3)) = 0 then 1 else (if (gI h 1 x1.toNatClampNeg 8) = 1 then 0 else 2)), (if (f_TB_isBelow x1 (gI h 0 0 3)) = 0 then (nx h) else (if (gI h 1 x1.toNatClampNeg 8) = 1 then (sL (f_UN_store h x1.toNatClampNeg) 0 27 0 ((gI h 1 x1.toNatClampNeg 9).toInt64)) else (nx h))))
theorem c_LW_release {E : ev_E} {P : Option ev_V ⊕ Nat → ev_H → Prop} {h : ev_H} {x1 : Int32} (hU : uok h) (hR : rfs h) (hZ : cZ h < ZM) (k : P (.inl (some (vI (f_LW_release h x1).1))) (f_LW_release h x1).2) : Ev E M_LW_release 0 [(0, vR 0 0), (1, vI x1), (2, vR 0 27)] [] h P := by
  refine Ev_aload_n (pc := 0) d_LW_release_0 rfl ?_
  refine Ev_iconst (v := 0) (pc := 1) d_LW_release_1 (by decide) ?_
  refine Ev_aload_n (pc := 2) d_LW_release_2 rfl ?_
  refine Ev_iload_n (pc := 3) d_LW_release_3 rfl ?_
  refine Ev_callV (M' := M_TB_release) (as := [vI x1]) (st := [vI 0, vR 0 27]) (a := 0) (i := 0) (pc := 4) d_LW_release_4 rfl rfl rfl rfl rfl rfl rfl v_TB_release lk_LW_60 rfl rfl (c_TB_release hU hR hZ ?_)
  rw [f_TB_release]
  by_cases q1 : (f_TB_isBelow x1 (gI h 0 0 3)) = 0
  · rw [if_pos q1]
    refine Or.inr ⟨rfl, rfl, 12, rfl, fun xq => ?_⟩
    refine Ev_astore_n (pc := 12) d_LW_release_12 rfl ?_
    refine Ev_iconst (v := 1) (pc := 13) d_LW_release_13 (by decide) ?_
    refine Ev_ireturn (pc := 14) d_LW_release_14 rfl rfl ?_
    simp only [f_LW_release, if_pos q1] at k
    exact k
  · rw [if_neg q1]
    by_cases q2 : (gI h 1 x1.toNatClampNeg 8) = 1
    · rw [if_pos q2]
      refine Ev_i2l (pc := 7) d_LW_release_7 ?_
      refine Ev_last (pc := 8) d_LW_release_8 rfl rfl (by decide) (by decide) ?_
      refine Ev_goto (tgt := 18) (pc := 9) d_LW_release_9 rfl ?_
      refine Ev_iconst (v := 0) (pc := 18) d_LW_release_18 (by decide) ?_
      refine Ev_ireturn (pc := 19) d_LW_release_19 rfl rfl ?_
      simp only [f_LW_release, if_neg q1, if_pos q2] at k
      exact k
    · rw [if_neg q2]
      refine Or.inr ⟨rfl, rfl, 15, rfl, fun xq => ?_⟩
      refine Ev_astore_n (pc := 15) d_LW_release_15 rfl ?_
      refine Ev_iconst (v := 2) (pc := 16) d_LW_release_16 (by decide) ?_
      refine Ev_ireturn (pc := 17) d_LW_release_17 rfl rfl ?_
      simp only [f_LW_release, if_neg q1, if_neg q2] at k
      exact k
def f_LW_issue (h : ev_H) (x1 : Int32) (x2 : Int32) : Int32 × ev_H := ((if (f_TB_isBelow x1 (gI h 0 0 4)) = 0 then 1 else (if (f_TB_isBelow x2 (gI h 0 0 3)) = 0 then 1 else (if (f_TB_mayLeaveFor h x1 x2.toNatClampNeg) = 0 then 2 else (if (gI h 2 x1.toNatClampNeg 0) = 2 then 2 else (if (f_PA_hasFreshSample h x1.toNatClampNeg (gI h 0 0 5)) = 0 then 2 else (if (f_TB_isCleared h x1.toNatClampNeg x2.toNatClampNeg x2) = 0 then 3 else 0)))))), (if (f_TB_isBelow x1 (gI h 0 0 4)) = 0 then (nx h) else (if (f_TB_isBelow x2 (gI h 0 0 3)) = 0 then (nx h) else (if (f_TB_mayLeaveFor h x1 x2.toNatClampNeg) = 0 then (nx h) else (if (gI h 2 x1.toNatClampNeg 0) = 2 then (nx h) else (if (f_PA_hasFreshSample h x1.toNatClampNeg (gI h 0 0 5)) = 0 then (nx h) else (if (f_TB_isCleared h x1.toNatClampNeg x2.toNatClampNeg x2) = 0 then (nx h) else (sL ((f_TB_handOver h x2.toNatClampNeg x1 0).2) 0 27 0 (((f_TB_handOver h x2.toNatClampNeg x1 0).1).toInt64)))))))))
theorem c_LW_issue {E : ev_E} {P : Option ev_V ⊕ Nat → ev_H → Prop} {h : ev_H} {x1 : Int32} {x2 : Int32} (hP : pok h) (hR : rfs h) (hZ : cZ h < ZM) (hU : uok h) (n4 : (gI h 0 0 3).toNatClampNeg ≤ 48) (n5 : (gI h 0 0 3) = nI (gI h 0 0 3).toNatClampNeg) (n6 : ∀ b, b < (gI h 0 0 3).toNatClampNeg → gR (sI (f_UN_issueTo h x2.toNatClampNeg x1 (gI h 0 0 5) (gI h 0 0 7) 0) 0 0 7 ((gI (f_UN_issueTo h x2.toNatClampNeg x1 (gI h 0 0 5) (gI h 0 0 7) 0) 0 0 7) + 1)) 0 1 b = vR 1 b) (k : P (.inl (some (vI (f_LW_issue h x1 x2).1))) (f_LW_issue h x1 x2).2) : Ev E M_LW_issue 0 [(0, vR 0 0), (1, vI x1), (2, vI x2), (3, vR 0 27)] [] h P := by
  refine Ev_aload_n (pc := 0) d_LW_issue_0 rfl ?_
  refine Ev_iconst (v := 0) (pc := 1) d_LW_issue_1 (by decide) ?_
  refine Ev_aload_n (pc := 2) d_LW_issue_2 rfl ?_
  refine Ev_iload_n (pc := 3) d_LW_issue_3 rfl ?_
  refine Ev_iload_n (pc := 4) d_LW_issue_4 rfl ?_
  refine Ev_callV (M' := M_TB_issue) (as := [vI x1, vI x2]) (st := [vI 0, vR 0 27]) (a := 0) (i := 0) (pc := 5) d_LW_issue_5 rfl rfl rfl rfl rfl rfl rfl v_TB_issue lk_LW_63 rfl rfl (c_TB_issue hP hR hZ hU n4 n5 n6 ?_)
  rw [f_TB_issue]
  by_cases q1 : (f_TB_isBelow x1 (gI h 0 0 4)) = 0
  · rw [if_pos q1]
    refine Or.inr ⟨rfl, rfl, 13, rfl, fun xq => ?_⟩
    refine Ev_astore (pc := 13) d_LW_issue_13 rfl ?_
    refine Ev_iconst (v := 1) (pc := 15) d_LW_issue_15 (by decide) ?_
    refine Ev_ireturn (pc := 16) d_LW_issue_16 rfl rfl ?_
    simp only [f_LW_issue, if_pos q1] at k
    exact k
  · rw [if_neg q1]
    by_cases q2 : (f_TB_isBelow x2 (gI h 0 0 3)) = 0
    · rw [if_pos q2]
      refine Or.inr ⟨rfl, rfl, 13, rfl, fun xq => ?_⟩
      refine Ev_astore (pc := 13) d_LW_issue_13 rfl ?_
      refine Ev_iconst (v := 1) (pc := 15) d_LW_issue_15 (by decide) ?_
      refine Ev_ireturn (pc := 16) d_LW_issue_16 rfl rfl ?_
      simp only [f_LW_issue, if_neg q1, if_pos q2] at k
      exact k
    · rw [if_neg q2]
      by_cases q3 : (f_TB_mayLeaveFor h x1 x2.toNatClampNeg) = 0
      · rw [if_pos q3]
        refine Or.inr ⟨rfl, rfl, 17, rfl, fun xq => ?_⟩
        refine Ev_astore (pc := 17) d_LW_issue_17 rfl ?_
        refine Ev_iconst (v := 2) (pc := 19) d_LW_issue_19 (by decide) ?_
        refine Ev_ireturn (pc := 20) d_LW_issue_20 rfl rfl ?_
        simp only [f_LW_issue, if_neg q1, if_neg q2, if_pos q3] at k
        exact k
      · rw [if_neg q3]
        by_cases q4 : (gI h 2 x1.toNatClampNeg 0) = 2
        · rw [if_pos q4]
          refine Or.inr ⟨rfl, rfl, 17, rfl, fun xq => ?_⟩
          refine Ev_astore (pc := 17) d_LW_issue_17 rfl ?_
          refine Ev_iconst (v := 2) (pc := 19) d_LW_issue_19 (by decide) ?_
          refine Ev_ireturn (pc := 20) d_LW_issue_20 rfl rfl ?_
          simp only [f_LW_issue, if_neg q1, if_neg q2, if_neg q3, if_pos q4] at k
          exact k
        · rw [if_neg q4]
          by_cases q5 : (f_PA_hasFreshSample h x1.toNatClampNeg (gI h 0 0 5)) = 0
          · rw [if_pos q5]
            refine Or.inr ⟨rfl, rfl, 17, rfl, fun xq => ?_⟩
            refine Ev_astore (pc := 17) d_LW_issue_17 rfl ?_
            refine Ev_iconst (v := 2) (pc := 19) d_LW_issue_19 (by decide) ?_
            refine Ev_ireturn (pc := 20) d_LW_issue_20 rfl rfl ?_
            simp only [f_LW_issue, if_neg q1, if_neg q2, if_neg q3, if_neg q4, if_pos q5] at k
            exact k
          · rw [if_neg q5]
            by_cases q6 : (f_TB_isCleared h x1.toNatClampNeg x2.toNatClampNeg x2) = 0
            · rw [if_pos q6]
              refine Or.inr ⟨rfl, rfl, 21, rfl, fun xq => ?_⟩
              refine Ev_astore (pc := 21) d_LW_issue_21 rfl ?_
              refine Ev_iconst (v := 3) (pc := 23) d_LW_issue_23 (by decide) ?_
              refine Ev_ireturn (pc := 24) d_LW_issue_24 rfl rfl ?_
              simp only [f_LW_issue, if_neg q1, if_neg q2, if_neg q3, if_neg q4, if_neg q5, if_pos q6] at k
              exact k
            · rw [if_neg q6]
              refine Ev_i2l (pc := 8) d_LW_issue_8 ?_
              refine Ev_last (pc := 9) d_LW_issue_9 rfl rfl (by decide) (by decide) ?_
              refine Ev_goto (tgt := 25) (pc := 10) d_LW_issue_10 rfl ?_
              refine Ev_iconst (v := 0) (pc := 25) d_LW_issue_25 (by decide) ?_
              refine Ev_ireturn (pc := 26) d_LW_issue_26 rfl rfl ?_
              simp only [f_LW_issue, if_neg q1, if_neg q2, if_neg q3, if_neg q4, if_neg q5, if_neg q6] at k
              exact k
def f_LW_emergency (h : ev_H) (x1 : Int32) (x2 : Int32) (x3 : Int32) : Int32 × ev_H := ((if (f_TB_isBelow x1 (gI h 0 0 4)) = 0 then 1 else (if (f_TB_isBelow x2 (gI h 0 0 3)) = 0 then 1 else (if x3 < 1 then 2 else (if x3 ≤ 999 then (if (f_TB_mayLeaveFor h x1 x2.toNatClampNeg) = 0 then 3 else (if (gI h 2 x1.toNatClampNeg 0) = 2 then 3 else (if (f_UN_isForEmergencies h x2.toNatClampNeg) = 0 then 4 else (if (f_RU_reason h x1.toNatClampNeg x2.toNatClampNeg) = 0 then 0 else 4)))) else 2)))), (if (f_TB_isBelow x1 (gI h 0 0 4)) = 0 then (nx h) else (if (f_TB_isBelow x2 (gI h 0 0 3)) = 0 then (nx h) else (if x3 < 1 then (nx h) else (if x3 ≤ 999 then (if (f_TB_mayLeaveFor h x1 x2.toNatClampNeg) = 0 then (nx h) else (if (gI h 2 x1.toNatClampNeg 0) = 2 then (nx h) else (if (f_UN_isForEmergencies h x2.toNatClampNeg) = 0 then (nx h) else (if (f_RU_reason h x1.toNatClampNeg x2.toNatClampNeg) = 0 then (sL ((f_TB_handOver h x2.toNatClampNeg x1 x3).2) 0 27 0 (((f_TB_handOver h x2.toNatClampNeg x1 x3).1).toInt64)) else (nx h))))) else (nx h))))))
theorem c_LW_emergency {E : ev_E} {P : Option ev_V ⊕ Nat → ev_H → Prop} {h : ev_H} {x1 : Int32} {x2 : Int32} {x3 : Int32} (hP : pok h) (hR : rfs h) (hZ : cZ h < ZM) (hU : uok h) (n4 : (gI h 0 0 3).toNatClampNeg ≤ 48) (n5 : (gI h 0 0 3) = nI (gI h 0 0 3).toNatClampNeg) (n6 : ∀ b, b < (gI h 0 0 3).toNatClampNeg → gR (sI (f_UN_issueTo h x2.toNatClampNeg x1 (gI h 0 0 5) (gI h 0 0 7) x3) 0 0 7 ((gI (f_UN_issueTo h x2.toNatClampNeg x1 (gI h 0 0 5) (gI h 0 0 7) x3) 0 0 7) + 1)) 0 1 b = vR 1 b) (k : P (.inl (some (vI (f_LW_emergency h x1 x2 x3).1))) (f_LW_emergency h x1 x2 x3).2) : Ev E M_LW_emergency 0 [(0, vR 0 0), (1, vI x1), (2, vI x2), (3, vI x3), (4, vR 0 27)] [] h P := by
  refine Ev_aload (pc := 0) d_LW_emergency_0 rfl ?_
  refine Ev_iconst (v := 0) (pc := 2) d_LW_emergency_2 (by decide) ?_
  refine Ev_aload_n (pc := 3) d_LW_emergency_3 rfl ?_
  refine Ev_iload_n (pc := 4) d_LW_emergency_4 rfl ?_
  refine Ev_iload_n (pc := 5) d_LW_emergency_5 rfl ?_
  refine Ev_iload_n (pc := 6) d_LW_emergency_6 rfl ?_
  refine Ev_callV (M' := M_TB_emergency) (as := [vI x1, vI x2, vI x3]) (st := [vI 0, vR 0 27]) (a := 0) (i := 0) (pc := 7) d_LW_emergency_7 rfl rfl rfl rfl rfl rfl rfl v_TB_emergency lk_LW_66 rfl rfl (c_TB_emergency hP hR hZ hU n4 n5 n6 ?_)
  rw [f_TB_emergency]
  by_cases q1 : (f_TB_isBelow x1 (gI h 0 0 4)) = 0
  · rw [if_pos q1]
    refine Or.inr ⟨rfl, rfl, 15, rfl, fun xq => ?_⟩
    refine Ev_astore (pc := 15) d_LW_emergency_15 rfl ?_
    refine Ev_iconst (v := 1) (pc := 17) d_LW_emergency_17 (by decide) ?_
    refine Ev_ireturn (pc := 18) d_LW_emergency_18 rfl rfl ?_
    simp only [f_LW_emergency, if_pos q1] at k
    exact k
  · rw [if_neg q1]
    by_cases q2 : (f_TB_isBelow x2 (gI h 0 0 3)) = 0
    · rw [if_pos q2]
      refine Or.inr ⟨rfl, rfl, 15, rfl, fun xq => ?_⟩
      refine Ev_astore (pc := 15) d_LW_emergency_15 rfl ?_
      refine Ev_iconst (v := 1) (pc := 17) d_LW_emergency_17 (by decide) ?_
      refine Ev_ireturn (pc := 18) d_LW_emergency_18 rfl rfl ?_
      simp only [f_LW_emergency, if_neg q1, if_pos q2] at k
      exact k
    · rw [if_neg q2]
      by_cases q3 : x3 < 1
      · rw [if_pos q3]
        refine Or.inr ⟨rfl, rfl, 19, rfl, fun xq => ?_⟩
        refine Ev_astore (pc := 19) d_LW_emergency_19 rfl ?_
        refine Ev_iconst (v := 2) (pc := 21) d_LW_emergency_21 (by decide) ?_
        refine Ev_ireturn (pc := 22) d_LW_emergency_22 rfl rfl ?_
        simp only [f_LW_emergency, if_neg q1, if_neg q2, if_pos q3] at k
        exact k
      · rw [if_neg q3]
        by_cases q4 : x3 ≤ 999
        · rw [if_pos q4]
          by_cases q5 : (f_TB_mayLeaveFor h x1 x2.toNatClampNeg) = 0
          · rw [if_pos q5]
            refine Or.inr ⟨rfl, rfl, 23, rfl, fun xq => ?_⟩
            refine Ev_astore (pc := 23) d_LW_emergency_23 rfl ?_
            refine Ev_iconst (v := 3) (pc := 25) d_LW_emergency_25 (by decide) ?_
            refine Ev_ireturn (pc := 26) d_LW_emergency_26 rfl rfl ?_
            simp only [f_LW_emergency, if_neg q1, if_neg q2, if_neg q3, if_pos q4, if_pos q5] at k
            exact k
          · rw [if_neg q5]
            by_cases q6 : (gI h 2 x1.toNatClampNeg 0) = 2
            · rw [if_pos q6]
              refine Or.inr ⟨rfl, rfl, 23, rfl, fun xq => ?_⟩
              refine Ev_astore (pc := 23) d_LW_emergency_23 rfl ?_
              refine Ev_iconst (v := 3) (pc := 25) d_LW_emergency_25 (by decide) ?_
              refine Ev_ireturn (pc := 26) d_LW_emergency_26 rfl rfl ?_
              simp only [f_LW_emergency, if_neg q1, if_neg q2, if_neg q3, if_pos q4, if_neg q5, if_pos q6] at k
              exact k
            · rw [if_neg q6]
              by_cases q7 : (f_UN_isForEmergencies h x2.toNatClampNeg) = 0
              · rw [if_pos q7]
                refine Or.inr ⟨rfl, rfl, 27, rfl, fun xq => ?_⟩
                refine Ev_astore (pc := 27) d_LW_emergency_27 rfl ?_
                refine Ev_iconst (v := 4) (pc := 29) d_LW_emergency_29 (by decide) ?_
                refine Ev_ireturn (pc := 30) d_LW_emergency_30 rfl rfl ?_
                simp only [f_LW_emergency, if_neg q1, if_neg q2, if_neg q3, if_pos q4, if_neg q5, if_neg q6, if_pos q7] at k
                exact k
              · rw [if_neg q7]
                by_cases q8 : (f_RU_reason h x1.toNatClampNeg x2.toNatClampNeg) = 0
                · rw [if_pos q8]
                  refine Ev_i2l (pc := 10) d_LW_emergency_10 ?_
                  refine Ev_last (pc := 11) d_LW_emergency_11 rfl rfl (by decide) (by decide) ?_
                  refine Ev_goto (tgt := 31) (pc := 12) d_LW_emergency_12 rfl ?_
                  refine Ev_iconst (v := 0) (pc := 31) d_LW_emergency_31 (by decide) ?_
                  refine Ev_ireturn (pc := 32) d_LW_emergency_32 rfl rfl ?_
                  simp only [f_LW_emergency, if_neg q1, if_neg q2, if_neg q3, if_pos q4, if_neg q5, if_neg q6, if_neg q7, if_pos q8] at k
                  exact k
                · rw [if_neg q8]
                  refine Or.inr ⟨rfl, rfl, 27, rfl, fun xq => ?_⟩
                  refine Ev_astore (pc := 27) d_LW_emergency_27 rfl ?_
                  refine Ev_iconst (v := 4) (pc := 29) d_LW_emergency_29 (by decide) ?_
                  refine Ev_ireturn (pc := 30) d_LW_emergency_30 rfl rfl ?_
                  simp only [f_LW_emergency, if_neg q1, if_neg q2, if_neg q3, if_pos q4, if_neg q5, if_neg q6, if_neg q7, if_neg q8] at k
                  exact k
        · rw [if_neg q4]
          refine Or.inr ⟨rfl, rfl, 19, rfl, fun xq => ?_⟩
          refine Ev_astore (pc := 19) d_LW_emergency_19 rfl ?_
          refine Ev_iconst (v := 2) (pc := 21) d_LW_emergency_21 (by decide) ?_
          refine Ev_ireturn (pc := 22) d_LW_emergency_22 rfl rfl ?_
          simp only [f_LW_emergency, if_neg q1, if_neg q2, if_neg q3, if_neg q4] at k
          exact k
def f_LW_giveBack (h : ev_H) (x1 : Int32) : Int32 × ev_H := ((if (f_TB_isBelow x1 (gI h 0 0 3)) = 0 then 1 else (if (gI h 1 x1.toNatClampNeg 8) = 2 then (if ((gI h 0 0 5) - (gI h 1 x1.toNatClampNeg 11)) < 30 then 0 else 2) else 2)), (if (f_TB_isBelow x1 (gI h 0 0 3)) = 0 then (nx h) else (if (gI h 1 x1.toNatClampNeg 8) = 2 then (if ((gI h 0 0 5) - (gI h 1 x1.toNatClampNeg 11)) < 30 then (sL (f_UN_store h x1.toNatClampNeg) 0 27 0 (((gI h 0 0 5) - (gI h 1 x1.toNatClampNeg 11)).toInt64)) else (nx h)) else (nx h))))
theorem c_LW_giveBack {E : ev_E} {P : Option ev_V ⊕ Nat → ev_H → Prop} {h : ev_H} {x1 : Int32} (hU : uok h) (hR : rfs h) (hZ : cZ h < ZM) (k : P (.inl (some (vI (f_LW_giveBack h x1).1))) (f_LW_giveBack h x1).2) : Ev E M_LW_giveBack 0 [(0, vR 0 0), (1, vI x1), (2, vR 0 27)] [] h P := by
  refine Ev_aload_n (pc := 0) d_LW_giveBack_0 rfl ?_
  refine Ev_iconst (v := 0) (pc := 1) d_LW_giveBack_1 (by decide) ?_
  refine Ev_aload_n (pc := 2) d_LW_giveBack_2 rfl ?_
  refine Ev_iload_n (pc := 3) d_LW_giveBack_3 rfl ?_
  refine Ev_callV (M' := M_TB_giveBack) (as := [vI x1]) (st := [vI 0, vR 0 27]) (a := 0) (i := 0) (pc := 4) d_LW_giveBack_4 rfl rfl rfl rfl rfl rfl rfl v_TB_giveBack lk_LW_69 rfl rfl (c_TB_giveBack hU hR hZ ?_)
  rw [f_TB_giveBack]
  by_cases q1 : (f_TB_isBelow x1 (gI h 0 0 3)) = 0
  · rw [if_pos q1]
    refine Or.inr ⟨rfl, rfl, 12, rfl, fun xq => ?_⟩
    refine Ev_astore_n (pc := 12) d_LW_giveBack_12 rfl ?_
    refine Ev_iconst (v := 1) (pc := 13) d_LW_giveBack_13 (by decide) ?_
    refine Ev_ireturn (pc := 14) d_LW_giveBack_14 rfl rfl ?_
    simp only [f_LW_giveBack, if_pos q1] at k
    exact k
  · rw [if_neg q1]
    by_cases q2 : (gI h 1 x1.toNatClampNeg 8) = 2
    · rw [if_pos q2]
      by_cases q3 : ((gI h 0 0 5) - (gI h 1 x1.toNatClampNeg 11)) < 30
      · rw [if_pos q3]
        refine Ev_i2l (pc := 7) d_LW_giveBack_7 ?_
        refine Ev_last (pc := 8) d_LW_giveBack_8 rfl rfl (by decide) (by decide) ?_
        refine Ev_goto (tgt := 18) (pc := 9) d_LW_giveBack_9 rfl ?_
        refine Ev_iconst (v := 0) (pc := 18) d_LW_giveBack_18 (by decide) ?_
        refine Ev_ireturn (pc := 19) d_LW_giveBack_19 rfl rfl ?_
        simp only [f_LW_giveBack, if_neg q1, if_pos q2, if_pos q3] at k
        exact k
      · rw [if_neg q3]
        refine Or.inr ⟨rfl, rfl, 15, rfl, fun xq => ?_⟩
        refine Ev_astore_n (pc := 15) d_LW_giveBack_15 rfl ?_
        refine Ev_iconst (v := 2) (pc := 16) d_LW_giveBack_16 (by decide) ?_
        refine Ev_ireturn (pc := 17) d_LW_giveBack_17 rfl rfl ?_
        simp only [f_LW_giveBack, if_neg q1, if_pos q2, if_neg q3] at k
        exact k
    · rw [if_neg q2]
      refine Or.inr ⟨rfl, rfl, 15, rfl, fun xq => ?_⟩
      refine Ev_astore_n (pc := 15) d_LW_giveBack_15 rfl ?_
      refine Ev_iconst (v := 2) (pc := 16) d_LW_giveBack_16 (by decide) ?_
      refine Ev_ireturn (pc := 17) d_LW_giveBack_17 rfl rfl ?_
      simp only [f_LW_giveBack, if_neg q1, if_neg q2] at k
      exact k
def f_LW_transfused (h : ev_H) (x1 : Int32) : Int32 × ev_H := ((if (f_TB_isBelow x1 (gI h 0 0 3)) = 0 then 1 else (if (gI h 1 x1.toNatClampNeg 8) = 2 then 0 else 2)), (if (f_TB_isBelow x1 (gI h 0 0 3)) = 0 then (nx h) else (if (gI h 1 x1.toNatClampNeg 8) = 2 then (sL (sI h 1 x1.toNatClampNeg 8 3) 0 27 0 ((gI (sI h 1 x1.toNatClampNeg 8 3) 1 x1.toNatClampNeg 9).toInt64)) else (nx h))))
theorem c_LW_transfused {E : ev_E} {P : Option ev_V ⊕ Nat → ev_H → Prop} {h : ev_H} {x1 : Int32} (hU : uok h) (hR : rfs h) (hZ : cZ h < ZM) (k : P (.inl (some (vI (f_LW_transfused h x1).1))) (f_LW_transfused h x1).2) : Ev E M_LW_transfused 0 [(0, vR 0 0), (1, vI x1), (2, vR 0 27)] [] h P := by
  refine Ev_aload_n (pc := 0) d_LW_transfused_0 rfl ?_
  refine Ev_iconst (v := 0) (pc := 1) d_LW_transfused_1 (by decide) ?_
  refine Ev_aload_n (pc := 2) d_LW_transfused_2 rfl ?_
  refine Ev_iload_n (pc := 3) d_LW_transfused_3 rfl ?_
  refine Ev_callV (M' := M_TB_transfused) (as := [vI x1]) (st := [vI 0, vR 0 27]) (a := 0) (i := 0) (pc := 4) d_LW_transfused_4 rfl rfl rfl rfl rfl rfl rfl v_TB_transfused lk_LW_72 rfl rfl (c_TB_transfused hU hR hZ ?_)
  rw [f_TB_transfused]
  by_cases q1 : (f_TB_isBelow x1 (gI h 0 0 3)) = 0
  · rw [if_pos q1]
    refine Or.inr ⟨rfl, rfl, 12, rfl, fun xq => ?_⟩
    refine Ev_astore_n (pc := 12) d_LW_transfused_12 rfl ?_
    refine Ev_iconst (v := 1) (pc := 13) d_LW_transfused_13 (by decide) ?_
    refine Ev_ireturn (pc := 14) d_LW_transfused_14 rfl rfl ?_
    simp only [f_LW_transfused, if_pos q1] at k
    exact k
  · rw [if_neg q1]
    by_cases q2 : (gI h 1 x1.toNatClampNeg 8) = 2
    · rw [if_pos q2]
      refine Ev_i2l (pc := 7) d_LW_transfused_7 ?_
      refine Ev_last (pc := 8) d_LW_transfused_8 rfl rfl (by decide) (by decide) ?_
      refine Ev_goto (tgt := 18) (pc := 9) d_LW_transfused_9 rfl ?_
      refine Ev_iconst (v := 0) (pc := 18) d_LW_transfused_18 (by decide) ?_
      refine Ev_ireturn (pc := 19) d_LW_transfused_19 rfl rfl ?_
      simp only [f_LW_transfused, if_neg q1, if_pos q2] at k
      exact k
    · rw [if_neg q2]
      refine Or.inr ⟨rfl, rfl, 15, rfl, fun xq => ?_⟩
      refine Ev_astore_n (pc := 15) d_LW_transfused_15 rfl ?_
      refine Ev_iconst (v := 2) (pc := 16) d_LW_transfused_16 (by decide) ?_
      refine Ev_ireturn (pc := 17) d_LW_transfused_17 rfl rfl ?_
      simp only [f_LW_transfused, if_neg q1, if_neg q2] at k
      exact k
def f_LW_discard (h : ev_H) (x1 : Int32) (x2 : Int32) : Int32 × ev_H := ((if (f_TB_isBelow x1 (gI h 0 0 3)) = 0 then 1 else (if x2 < 1 then 2 else (if x2 ≤ 5 then (if (f_UN_isInHouse h x1.toNatClampNeg) = 0 then (if (gI h 1 x1.toNatClampNeg 8) = 2 then 0 else 3) else 0) else 2))), (if (f_TB_isBelow x1 (gI h 0 0 3)) = 0 then (nx h) else (if x2 < 1 then (nx h) else (if x2 ≤ 5 then (if (f_UN_isInHouse h x1.toNatClampNeg) = 0 then (if (gI h 1 x1.toNatClampNeg 8) = 2 then (sL (f_UN_throwAway h x1.toNatClampNeg x2) 0 27 0 ((gI h 1 x1.toNatClampNeg 8).toInt64)) else (nx h)) else (sL (f_UN_throwAway h x1.toNatClampNeg x2) 0 27 0 ((gI h 1 x1.toNatClampNeg 8).toInt64))) else (nx h)))))
theorem c_LW_discard {E : ev_E} {P : Option ev_V ⊕ Nat → ev_H → Prop} {h : ev_H} {x1 : Int32} {x2 : Int32} (hU : uok h) (hR : rfs h) (hZ : cZ h < ZM) (k : P (.inl (some (vI (f_LW_discard h x1 x2).1))) (f_LW_discard h x1 x2).2) : Ev E M_LW_discard 0 [(0, vR 0 0), (1, vI x1), (2, vI x2), (3, vR 0 27)] [] h P := by
  refine Ev_aload_n (pc := 0) d_LW_discard_0 rfl ?_
  refine Ev_iconst (v := 0) (pc := 1) d_LW_discard_1 (by decide) ?_
  refine Ev_aload_n (pc := 2) d_LW_discard_2 rfl ?_
  refine Ev_iload_n (pc := 3) d_LW_discard_3 rfl ?_
  refine Ev_iload_n (pc := 4) d_LW_discard_4 rfl ?_
  refine Ev_callV (M' := M_TB_discard) (as := [vI x1, vI x2]) (st := [vI 0, vR 0 27]) (a := 0) (i := 0) (pc := 5) d_LW_discard_5 rfl rfl rfl rfl rfl rfl rfl v_TB_discard lk_LW_75 rfl rfl (c_TB_discard hU hR hZ ?_)
  rw [f_TB_discard]
  by_cases q1 : (f_TB_isBelow x1 (gI h 0 0 3)) = 0
  · rw [if_pos q1]
    refine Or.inr ⟨rfl, rfl, 13, rfl, fun xq => ?_⟩
    refine Ev_astore (pc := 13) d_LW_discard_13 rfl ?_
    refine Ev_iconst (v := 1) (pc := 15) d_LW_discard_15 (by decide) ?_
    refine Ev_ireturn (pc := 16) d_LW_discard_16 rfl rfl ?_
    simp only [f_LW_discard, if_pos q1] at k
    exact k
  · rw [if_neg q1]
    by_cases q2 : x2 < 1
    · rw [if_pos q2]
      refine Or.inr ⟨rfl, rfl, 17, rfl, fun xq => ?_⟩
      refine Ev_astore (pc := 17) d_LW_discard_17 rfl ?_
      refine Ev_iconst (v := 2) (pc := 19) d_LW_discard_19 (by decide) ?_
      refine Ev_ireturn (pc := 20) d_LW_discard_20 rfl rfl ?_
      simp only [f_LW_discard, if_neg q1, if_pos q2] at k
      exact k
    · rw [if_neg q2]
      by_cases q3 : x2 ≤ 5
      · rw [if_pos q3]
        by_cases q4 : (f_UN_isInHouse h x1.toNatClampNeg) = 0
        · rw [if_pos q4]
          by_cases q5 : (gI h 1 x1.toNatClampNeg 8) = 2
          · rw [if_pos q5]
            refine Ev_i2l (pc := 8) d_LW_discard_8 ?_
            refine Ev_last (pc := 9) d_LW_discard_9 rfl rfl (by decide) (by decide) ?_
            refine Ev_goto (tgt := 25) (pc := 10) d_LW_discard_10 rfl ?_
            refine Ev_iconst (v := 0) (pc := 25) d_LW_discard_25 (by decide) ?_
            refine Ev_ireturn (pc := 26) d_LW_discard_26 rfl rfl ?_
            simp only [f_LW_discard, if_neg q1, if_neg q2, if_pos q3, if_pos q4, if_pos q5] at k
            exact k
          · rw [if_neg q5]
            refine Or.inr ⟨rfl, rfl, 21, rfl, fun xq => ?_⟩
            refine Ev_astore (pc := 21) d_LW_discard_21 rfl ?_
            refine Ev_iconst (v := 3) (pc := 23) d_LW_discard_23 (by decide) ?_
            refine Ev_ireturn (pc := 24) d_LW_discard_24 rfl rfl ?_
            simp only [f_LW_discard, if_neg q1, if_neg q2, if_pos q3, if_pos q4, if_neg q5] at k
            exact k
        · rw [if_neg q4]
          refine Ev_i2l (pc := 8) d_LW_discard_8 ?_
          refine Ev_last (pc := 9) d_LW_discard_9 rfl rfl (by decide) (by decide) ?_
          refine Ev_goto (tgt := 25) (pc := 10) d_LW_discard_10 rfl ?_
          refine Ev_iconst (v := 0) (pc := 25) d_LW_discard_25 (by decide) ?_
          refine Ev_ireturn (pc := 26) d_LW_discard_26 rfl rfl ?_
          simp only [f_LW_discard, if_neg q1, if_neg q2, if_pos q3, if_neg q4] at k
          exact k
      · rw [if_neg q3]
        refine Or.inr ⟨rfl, rfl, 17, rfl, fun xq => ?_⟩
        refine Ev_astore (pc := 17) d_LW_discard_17 rfl ?_
        refine Ev_iconst (v := 2) (pc := 19) d_LW_discard_19 (by decide) ?_
        refine Ev_ireturn (pc := 20) d_LW_discard_20 rfl rfl ?_
        simp only [f_LW_discard, if_neg q1, if_neg q2, if_neg q3] at k
        exact k
def f_LW_quarantine (h : ev_H) (x1 : Int32) (x2 : Int32) : Int32 × ev_H := ((if (f_TB_isBelow x1 16) = 0 then 1 else 0), (if (f_TB_isBelow x1 16) = 0 then (nx h) else (sL (sI h 0 0 6 (m_TB_quarantine_45 h x1 x2)) 0 27 0 ((r_TB_quarantine_L54 (sI h 0 0 6 (m_TB_quarantine_45 h x1 x2)) x1 x2 (1 <<< (x1 &&& 31)) (gI (sI h 0 0 6 (m_TB_quarantine_45 h x1 x2)) 0 0 3).toNatClampNeg).toInt64))))
theorem c_LW_quarantine {E : ev_E} {P : Option ev_V ⊕ Nat → ev_H → Prop} {h : ev_H} {x1 : Int32} {x2 : Int32} (n0 : (gI h 0 0 3).toNatClampNeg ≤ 48) (n1 : (gI h 0 0 3) = nI (gI h 0 0 3).toNatClampNeg) (hR : rfs h) (n3 : ∀ b, b < (gI h 0 0 3).toNatClampNeg → gR (sI h 0 0 6 (m_TB_quarantine_45 h x1 x2)) 0 1 b = vR 1 b) (hZ : cZ h < ZM) (k : P (.inl (some (vI (f_LW_quarantine h x1 x2).1))) (f_LW_quarantine h x1 x2).2) : Ev E M_LW_quarantine 0 [(0, vR 0 0), (1, vI x1), (2, vI x2), (3, vR 0 27)] [] h P := by
  refine Ev_aload_n (pc := 0) d_LW_quarantine_0 rfl ?_
  refine Ev_iconst (v := 0) (pc := 1) d_LW_quarantine_1 (by decide) ?_
  refine Ev_aload_n (pc := 2) d_LW_quarantine_2 rfl ?_
  refine Ev_iload_n (pc := 3) d_LW_quarantine_3 rfl ?_
  refine Ev_iload_n (pc := 4) d_LW_quarantine_4 rfl ?_
  refine Ev_callV (M' := M_TB_quarantine) (as := [vI x1, vI x2]) (st := [vI 0, vR 0 27]) (a := 0) (i := 0) (pc := 5) d_LW_quarantine_5 rfl rfl rfl rfl rfl rfl rfl v_TB_quarantine lk_LW_78 rfl rfl (c_TB_quarantine n0 n1 hR n3 hZ ?_)
  rw [f_TB_quarantine]
  by_cases q1 : (f_TB_isBelow x1 16) = 0
  · rw [if_pos q1]
    refine Or.inr ⟨rfl, rfl, 13, rfl, fun xq => ?_⟩
    refine Ev_astore (pc := 13) d_LW_quarantine_13 rfl ?_
    refine Ev_iconst (v := 1) (pc := 15) d_LW_quarantine_15 (by decide) ?_
    refine Ev_ireturn (pc := 16) d_LW_quarantine_16 rfl rfl ?_
    simp only [f_LW_quarantine, if_pos q1] at k
    exact k
  · rw [if_neg q1]
    rw [f_TB_quarantine_45]
    refine Ev_i2l (pc := 8) d_LW_quarantine_8 ?_
    refine Ev_last (pc := 9) d_LW_quarantine_9 rfl rfl (by decide) (by decide) ?_
    refine Ev_goto (tgt := 17) (pc := 10) d_LW_quarantine_10 rfl ?_
    refine Ev_iconst (v := 0) (pc := 17) d_LW_quarantine_17 (by decide) ?_
    refine Ev_ireturn (pc := 18) d_LW_quarantine_18 rfl rfl ?_
    simp only [f_LW_quarantine, if_neg q1] at k
    exact k
def f_LW_of (h : ev_H) (x1 : Int32) (x2 : Int32) : Int32 × ev_H := ((if (f_TB_isBelow x1 (gI h 0 0 3)) = 0 then 1 else (if x2 = 0 then 0 else (if x2 = 1 then 0 else (if x2 = 2 then 0 else (if x2 = 3 then 0 else (if x2 = 4 then 0 else (if x2 = 5 then 0 else (if x2 = 6 then 0 else (if x2 = 7 then 0 else (if x2 = 8 then 0 else (if x2 = 9 then 0 else 2))))))))))), (if (f_TB_isBelow x1 (gI h 0 0 3)) = 0 then (nx h) else (if x2 = 0 then (sL h 0 27 0 ((gI h 1 x1.toNatClampNeg 8).toInt64)) else (if x2 = 1 then (sL h 0 27 0 ((gI h 1 x1.toNatClampNeg 0).toInt64)) else (if x2 = 2 then (sL h 0 27 0 ((gI h 1 x1.toNatClampNeg 1).toInt64)) else (if x2 = 3 then (sL h 0 27 0 ((gI h 1 x1.toNatClampNeg 2).toInt64)) else (if x2 = 4 then (sL h 0 27 0 ((gI h 1 x1.toNatClampNeg 7).toInt64)) else (if x2 = 5 then (sL h 0 27 0 ((gI h 1 x1.toNatClampNeg 4).toInt64)) else (if x2 = 6 then (sL h 0 27 0 ((gI h 1 x1.toNatClampNeg 9).toInt64)) else (if x2 = 7 then (if (f_UN_isBarred h x1.toNatClampNeg (gI h 0 0 6)) = 0 then (sL h 0 27 0 ((0 : Int32).toInt64)) else (sL h 0 27 0 ((1 : Int32).toInt64))) else (if x2 = 8 then (sL h 0 27 0 ((gI h 1 x1.toNatClampNeg 13).toInt64)) else (if x2 = 9 then (sL h 0 27 0 ((gI h 1 x1.toNatClampNeg 14).toInt64)) else (nx h)))))))))))))
theorem c_LW_of {E : ev_E} {P : Option ev_V ⊕ Nat → ev_H → Prop} {h : ev_H} {x1 : Int32} {x2 : Int32} (hU : uok h) (hR : rfs h) (hZ : cZ h < ZM) (k : P (.inl (some (vI (f_LW_of h x1 x2).1))) (f_LW_of h x1 x2).2) : Ev E M_LW_of 0 [(0, vR 0 0), (1, vI x1), (2, vI x2), (3, vR 0 27)] [] h P := by
  refine Ev_aload_n (pc := 0) d_LW_of_0 rfl ?_
  refine Ev_iconst (v := 0) (pc := 1) d_LW_of_1 (by decide) ?_
  refine Ev_aload_n (pc := 2) d_LW_of_2 rfl ?_
  refine Ev_iload_n (pc := 3) d_LW_of_3 rfl ?_
  refine Ev_iload_n (pc := 4) d_LW_of_4 rfl ?_
  refine Ev_callV (M' := M_TB_of) (as := [vI x1, vI x2]) (st := [vI 0, vR 0 27]) (a := 0) (i := 0) (pc := 5) d_LW_of_5 rfl rfl rfl rfl rfl rfl rfl v_TB_of lk_LW_82 rfl rfl (c_TB_of hU hR hZ ?_)
  rw [f_TB_of]
  by_cases q1 : (f_TB_isBelow x1 (gI h 0 0 3)) = 0
  · rw [if_pos q1]
    refine Or.inr ⟨rfl, rfl, 13, rfl, fun xq => ?_⟩
    refine Ev_astore (pc := 13) d_LW_of_13 rfl ?_
    refine Ev_iconst (v := 1) (pc := 15) d_LW_of_15 (by decide) ?_
    refine Ev_ireturn (pc := 16) d_LW_of_16 rfl rfl ?_
    simp only [f_LW_of, if_pos q1] at k
    exact k
  · rw [if_neg q1]
    by_cases q2 : x2 = 0
    · rw [if_pos q2]
      refine Ev_i2l (pc := 8) d_LW_of_8 ?_
      refine Ev_last (pc := 9) d_LW_of_9 rfl rfl (by decide) (by decide) ?_
      refine Ev_goto (tgt := 21) (pc := 10) d_LW_of_10 rfl ?_
      refine Ev_iconst (v := 0) (pc := 21) d_LW_of_21 (by decide) ?_
      refine Ev_ireturn (pc := 22) d_LW_of_22 rfl rfl ?_
      simp only [f_LW_of, if_neg q1, if_pos q2] at k
      exact k
    · rw [if_neg q2]
      by_cases q3 : x2 = 1
      · rw [if_pos q3]
        refine Ev_i2l (pc := 8) d_LW_of_8 ?_
        refine Ev_last (pc := 9) d_LW_of_9 rfl rfl (by decide) (by decide) ?_
        refine Ev_goto (tgt := 21) (pc := 10) d_LW_of_10 rfl ?_
        refine Ev_iconst (v := 0) (pc := 21) d_LW_of_21 (by decide) ?_
        refine Ev_ireturn (pc := 22) d_LW_of_22 rfl rfl ?_
        simp only [f_LW_of, if_neg q1, if_neg q2, if_pos q3] at k
        exact k
      · rw [if_neg q3]
        by_cases q4 : x2 = 2
        · rw [if_pos q4]
          refine Ev_i2l (pc := 8) d_LW_of_8 ?_
          refine Ev_last (pc := 9) d_LW_of_9 rfl rfl (by decide) (by decide) ?_
          refine Ev_goto (tgt := 21) (pc := 10) d_LW_of_10 rfl ?_
          refine Ev_iconst (v := 0) (pc := 21) d_LW_of_21 (by decide) ?_
          refine Ev_ireturn (pc := 22) d_LW_of_22 rfl rfl ?_
          simp only [f_LW_of, if_neg q1, if_neg q2, if_neg q3, if_pos q4] at k
          exact k
        · rw [if_neg q4]
          by_cases q5 : x2 = 3
          · rw [if_pos q5]
            refine Ev_i2l (pc := 8) d_LW_of_8 ?_
            refine Ev_last (pc := 9) d_LW_of_9 rfl rfl (by decide) (by decide) ?_
            refine Ev_goto (tgt := 21) (pc := 10) d_LW_of_10 rfl ?_
            refine Ev_iconst (v := 0) (pc := 21) d_LW_of_21 (by decide) ?_
            refine Ev_ireturn (pc := 22) d_LW_of_22 rfl rfl ?_
            simp only [f_LW_of, if_neg q1, if_neg q2, if_neg q3, if_neg q4, if_pos q5] at k
            exact k
          · rw [if_neg q5]
            by_cases q6 : x2 = 4
            · rw [if_pos q6]
              refine Ev_i2l (pc := 8) d_LW_of_8 ?_
              refine Ev_last (pc := 9) d_LW_of_9 rfl rfl (by decide) (by decide) ?_
              refine Ev_goto (tgt := 21) (pc := 10) d_LW_of_10 rfl ?_
              refine Ev_iconst (v := 0) (pc := 21) d_LW_of_21 (by decide) ?_
              refine Ev_ireturn (pc := 22) d_LW_of_22 rfl rfl ?_
              simp only [f_LW_of, if_neg q1, if_neg q2, if_neg q3, if_neg q4, if_neg q5, if_pos q6] at k
              exact k
            · rw [if_neg q6]
              by_cases q7 : x2 = 5
              · rw [if_pos q7]
                refine Ev_i2l (pc := 8) d_LW_of_8 ?_
                refine Ev_last (pc := 9) d_LW_of_9 rfl rfl (by decide) (by decide) ?_
                refine Ev_goto (tgt := 21) (pc := 10) d_LW_of_10 rfl ?_
                refine Ev_iconst (v := 0) (pc := 21) d_LW_of_21 (by decide) ?_
                refine Ev_ireturn (pc := 22) d_LW_of_22 rfl rfl ?_
                simp only [f_LW_of, if_neg q1, if_neg q2, if_neg q3, if_neg q4, if_neg q5, if_neg q6, if_pos q7] at k
                exact k
              · rw [if_neg q7]
                by_cases q8 : x2 = 6
                · rw [if_pos q8]
                  refine Ev_i2l (pc := 8) d_LW_of_8 ?_
                  refine Ev_last (pc := 9) d_LW_of_9 rfl rfl (by decide) (by decide) ?_
                  refine Ev_goto (tgt := 21) (pc := 10) d_LW_of_10 rfl ?_
                  refine Ev_iconst (v := 0) (pc := 21) d_LW_of_21 (by decide) ?_
                  refine Ev_ireturn (pc := 22) d_LW_of_22 rfl rfl ?_
                  simp only [f_LW_of, if_neg q1, if_neg q2, if_neg q3, if_neg q4, if_neg q5, if_neg q6, if_neg q7, if_pos q8] at k
                  exact k
                · rw [if_neg q8]
                  by_cases q9 : x2 = 7
                  · rw [if_pos q9]
                    by_cases q10 : (f_UN_isBarred h x1.toNatClampNeg (gI h 0 0 6)) = 0
                    · rw [if_pos q10]
                      refine Ev_i2l (pc := 8) d_LW_of_8 ?_
                      refine Ev_last (pc := 9) d_LW_of_9 rfl rfl (by decide) (by decide) ?_
                      refine Ev_goto (tgt := 21) (pc := 10) d_LW_of_10 rfl ?_
                      refine Ev_iconst (v := 0) (pc := 21) d_LW_of_21 (by decide) ?_
                      refine Ev_ireturn (pc := 22) d_LW_of_22 rfl rfl ?_
                      simp only [f_LW_of, if_neg q1, if_neg q2, if_neg q3, if_neg q4, if_neg q5, if_neg q6, if_neg q7, if_neg q8, if_pos q9, if_pos q10] at k
                      exact k
                    · rw [if_neg q10]
                      refine Ev_i2l (pc := 8) d_LW_of_8 ?_
                      refine Ev_last (pc := 9) d_LW_of_9 rfl rfl (by decide) (by decide) ?_
                      refine Ev_goto (tgt := 21) (pc := 10) d_LW_of_10 rfl ?_
                      refine Ev_iconst (v := 0) (pc := 21) d_LW_of_21 (by decide) ?_
                      refine Ev_ireturn (pc := 22) d_LW_of_22 rfl rfl ?_
                      simp only [f_LW_of, if_neg q1, if_neg q2, if_neg q3, if_neg q4, if_neg q5, if_neg q6, if_neg q7, if_neg q8, if_pos q9, if_neg q10] at k
                      exact k
                  · rw [if_neg q9]
                    by_cases q11 : x2 = 8
                    · rw [if_pos q11]
                      refine Ev_i2l (pc := 8) d_LW_of_8 ?_
                      refine Ev_last (pc := 9) d_LW_of_9 rfl rfl (by decide) (by decide) ?_
                      refine Ev_goto (tgt := 21) (pc := 10) d_LW_of_10 rfl ?_
                      refine Ev_iconst (v := 0) (pc := 21) d_LW_of_21 (by decide) ?_
                      refine Ev_ireturn (pc := 22) d_LW_of_22 rfl rfl ?_
                      simp only [f_LW_of, if_neg q1, if_neg q2, if_neg q3, if_neg q4, if_neg q5, if_neg q6, if_neg q7, if_neg q8, if_neg q9, if_pos q11] at k
                      exact k
                    · rw [if_neg q11]
                      by_cases q12 : x2 = 9
                      · rw [if_pos q12]
                        refine Ev_i2l (pc := 8) d_LW_of_8 ?_
                        refine Ev_last (pc := 9) d_LW_of_9 rfl rfl (by decide) (by decide) ?_
                        refine Ev_goto (tgt := 21) (pc := 10) d_LW_of_10 rfl ?_
                        refine Ev_iconst (v := 0) (pc := 21) d_LW_of_21 (by decide) ?_
                        refine Ev_ireturn (pc := 22) d_LW_of_22 rfl rfl ?_
                        simp only [f_LW_of, if_neg q1, if_neg q2, if_neg q3, if_neg q4, if_neg q5, if_neg q6, if_neg q7, if_neg q8, if_neg q9, if_neg q11, if_pos q12] at k
                        exact k
                      · rw [if_neg q12]
                        refine Or.inr ⟨rfl, rfl, 17, rfl, fun xq => ?_⟩
                        refine Ev_astore (pc := 17) d_LW_of_17 rfl ?_
                        refine Ev_iconst (v := 2) (pc := 19) d_LW_of_19 (by decide) ?_
                        refine Ev_ireturn (pc := 20) d_LW_of_20 rfl rfl ?_
                        simp only [f_LW_of, if_neg q1, if_neg q2, if_neg q3, if_neg q4, if_neg q5, if_neg q6, if_neg q7, if_neg q8, if_neg q9, if_neg q11, if_neg q12] at k
                        exact k
def f_LW_has (h : ev_H) (x1 : Int32) (x2 : Int32) : Int32 × ev_H := ((if (f_TB_isBelow x1 (gI h 0 0 3)) = 0 then 1 else (if (f_TB_isBelow x2 8) = 0 then 2 else 0)), (if (f_TB_isBelow x1 (gI h 0 0 3)) = 0 then (nx h) else (if (f_TB_isBelow x2 8) = 0 then (nx h) else (sL h 0 27 0 ((f_UN_antigenValue h x1.toNatClampNeg x2).toInt64)))))
theorem c_LW_has {E : ev_E} {P : Option ev_V ⊕ Nat → ev_H → Prop} {h : ev_H} {x1 : Int32} {x2 : Int32} (hU : uok h) (hR : rfs h) (hZ : cZ h < ZM) (k : P (.inl (some (vI (f_LW_has h x1 x2).1))) (f_LW_has h x1 x2).2) : Ev E M_LW_has 0 [(0, vR 0 0), (1, vI x1), (2, vI x2), (3, vR 0 27)] [] h P := by
  refine Ev_aload_n (pc := 0) d_LW_has_0 rfl ?_
  refine Ev_iconst (v := 0) (pc := 1) d_LW_has_1 (by decide) ?_
  refine Ev_aload_n (pc := 2) d_LW_has_2 rfl ?_
  refine Ev_iload_n (pc := 3) d_LW_has_3 rfl ?_
  refine Ev_iload_n (pc := 4) d_LW_has_4 rfl ?_
  refine Ev_callV (M' := M_TB_has) (as := [vI x1, vI x2]) (st := [vI 0, vR 0 27]) (a := 0) (i := 0) (pc := 5) d_LW_has_5 rfl rfl rfl rfl rfl rfl rfl v_TB_has lk_LW_87 rfl rfl (c_TB_has hU hR hZ ?_)
  rw [f_TB_has]
  by_cases q1 : (f_TB_isBelow x1 (gI h 0 0 3)) = 0
  · rw [if_pos q1]
    refine Or.inr ⟨rfl, rfl, 13, rfl, fun xq => ?_⟩
    refine Ev_astore (pc := 13) d_LW_has_13 rfl ?_
    refine Ev_iconst (v := 1) (pc := 15) d_LW_has_15 (by decide) ?_
    refine Ev_ireturn (pc := 16) d_LW_has_16 rfl rfl ?_
    simp only [f_LW_has, if_pos q1] at k
    exact k
  · rw [if_neg q1]
    by_cases q2 : (f_TB_isBelow x2 8) = 0
    · rw [if_pos q2]
      refine Or.inr ⟨rfl, rfl, 17, rfl, fun xq => ?_⟩
      refine Ev_astore (pc := 17) d_LW_has_17 rfl ?_
      refine Ev_iconst (v := 2) (pc := 19) d_LW_has_19 (by decide) ?_
      refine Ev_ireturn (pc := 20) d_LW_has_20 rfl rfl ?_
      simp only [f_LW_has, if_neg q1, if_pos q2] at k
      exact k
    · rw [if_neg q2]
      refine Ev_i2l (pc := 8) d_LW_has_8 ?_
      refine Ev_last (pc := 9) d_LW_has_9 rfl rfl (by decide) (by decide) ?_
      refine Ev_goto (tgt := 21) (pc := 10) d_LW_has_10 rfl ?_
      refine Ev_iconst (v := 0) (pc := 21) d_LW_has_21 (by decide) ?_
      refine Ev_ireturn (pc := 22) d_LW_has_22 rfl rfl ?_
      simp only [f_LW_has, if_neg q1, if_neg q2] at k
      exact k
def f_LW_who (h : ev_H) (x1 : Int32) (x2 : Int32) : Int32 × ev_H := ((if (f_TB_isBelow x1 (gI h 0 0 4)) = 0 then 1 else (if x2 = 0 then 0 else (if x2 = 1 then 0 else (if x2 = 2 then 0 else (if x2 = 3 then 0 else (if x2 = 4 then 0 else 2)))))), (if (f_TB_isBelow x1 (gI h 0 0 4)) = 0 then (nx h) else (if x2 = 0 then (sL h 0 27 0 ((gI h 2 x1.toNatClampNeg 0).toInt64)) else (if x2 = 1 then (if (gI h 2 x1.toNatClampNeg 0) = 1 then (sL h 0 27 0 ((gI h 2 x1.toNatClampNeg 1).toInt64)) else (sL h 0 27 0 ((-1 : Int32).toInt64))) else (if x2 = 2 then (if (gI h 2 x1.toNatClampNeg 0) = 1 then (sL h 0 27 0 ((gI h 2 x1.toNatClampNeg 2).toInt64)) else (sL h 0 27 0 ((-1 : Int32).toInt64))) else (if x2 = 3 then (sL h 0 27 0 ((gI h 2 x1.toNatClampNeg 4).toInt64)) else (if x2 = 4 then (sL h 0 27 0 ((gI h 2 x1.toNatClampNeg 5).toInt64)) else (nx h))))))))
theorem c_LW_who {E : ev_E} {P : Option ev_V ⊕ Nat → ev_H → Prop} {h : ev_H} {x1 : Int32} {x2 : Int32} (hP : pok h) (hR : rfs h) (hZ : cZ h < ZM) (k : P (.inl (some (vI (f_LW_who h x1 x2).1))) (f_LW_who h x1 x2).2) : Ev E M_LW_who 0 [(0, vR 0 0), (1, vI x1), (2, vI x2), (3, vR 0 27)] [] h P := by
  refine Ev_aload_n (pc := 0) d_LW_who_0 rfl ?_
  refine Ev_iconst (v := 0) (pc := 1) d_LW_who_1 (by decide) ?_
  refine Ev_aload_n (pc := 2) d_LW_who_2 rfl ?_
  refine Ev_iload_n (pc := 3) d_LW_who_3 rfl ?_
  refine Ev_iload_n (pc := 4) d_LW_who_4 rfl ?_
  refine Ev_callV (M' := M_TB_who) (as := [vI x1, vI x2]) (st := [vI 0, vR 0 27]) (a := 0) (i := 0) (pc := 5) d_LW_who_5 rfl rfl rfl rfl rfl rfl rfl v_TB_who lk_LW_90 rfl rfl (c_TB_who hP hR hZ ?_)
  rw [f_TB_who]
  by_cases q1 : (f_TB_isBelow x1 (gI h 0 0 4)) = 0
  · rw [if_pos q1]
    refine Or.inr ⟨rfl, rfl, 13, rfl, fun xq => ?_⟩
    refine Ev_astore (pc := 13) d_LW_who_13 rfl ?_
    refine Ev_iconst (v := 1) (pc := 15) d_LW_who_15 (by decide) ?_
    refine Ev_ireturn (pc := 16) d_LW_who_16 rfl rfl ?_
    simp only [f_LW_who, if_pos q1] at k
    exact k
  · rw [if_neg q1]
    by_cases q2 : x2 = 0
    · rw [if_pos q2]
      refine Ev_i2l (pc := 8) d_LW_who_8 ?_
      refine Ev_last (pc := 9) d_LW_who_9 rfl rfl (by decide) (by decide) ?_
      refine Ev_goto (tgt := 21) (pc := 10) d_LW_who_10 rfl ?_
      refine Ev_iconst (v := 0) (pc := 21) d_LW_who_21 (by decide) ?_
      refine Ev_ireturn (pc := 22) d_LW_who_22 rfl rfl ?_
      simp only [f_LW_who, if_neg q1, if_pos q2] at k
      exact k
    · rw [if_neg q2]
      by_cases q3 : x2 = 1
      · rw [if_pos q3]
        by_cases q4 : (gI h 2 x1.toNatClampNeg 0) = 1
        · rw [if_pos q4]
          refine Ev_i2l (pc := 8) d_LW_who_8 ?_
          refine Ev_last (pc := 9) d_LW_who_9 rfl rfl (by decide) (by decide) ?_
          refine Ev_goto (tgt := 21) (pc := 10) d_LW_who_10 rfl ?_
          refine Ev_iconst (v := 0) (pc := 21) d_LW_who_21 (by decide) ?_
          refine Ev_ireturn (pc := 22) d_LW_who_22 rfl rfl ?_
          simp only [f_LW_who, if_neg q1, if_neg q2, if_pos q3, if_pos q4] at k
          exact k
        · rw [if_neg q4]
          refine Ev_i2l (pc := 8) d_LW_who_8 ?_
          refine Ev_last (pc := 9) d_LW_who_9 rfl rfl (by decide) (by decide) ?_
          refine Ev_goto (tgt := 21) (pc := 10) d_LW_who_10 rfl ?_
          refine Ev_iconst (v := 0) (pc := 21) d_LW_who_21 (by decide) ?_
          refine Ev_ireturn (pc := 22) d_LW_who_22 rfl rfl ?_
          simp only [f_LW_who, if_neg q1, if_neg q2, if_pos q3, if_neg q4] at k
          exact k
      · rw [if_neg q3]
        by_cases q5 : x2 = 2
        · rw [if_pos q5]
          by_cases q6 : (gI h 2 x1.toNatClampNeg 0) = 1
          · rw [if_pos q6]
            refine Ev_i2l (pc := 8) d_LW_who_8 ?_
            refine Ev_last (pc := 9) d_LW_who_9 rfl rfl (by decide) (by decide) ?_
            refine Ev_goto (tgt := 21) (pc := 10) d_LW_who_10 rfl ?_
            refine Ev_iconst (v := 0) (pc := 21) d_LW_who_21 (by decide) ?_
            refine Ev_ireturn (pc := 22) d_LW_who_22 rfl rfl ?_
            simp only [f_LW_who, if_neg q1, if_neg q2, if_neg q3, if_pos q5, if_pos q6] at k
            exact k
          · rw [if_neg q6]
            refine Ev_i2l (pc := 8) d_LW_who_8 ?_
            refine Ev_last (pc := 9) d_LW_who_9 rfl rfl (by decide) (by decide) ?_
            refine Ev_goto (tgt := 21) (pc := 10) d_LW_who_10 rfl ?_
            refine Ev_iconst (v := 0) (pc := 21) d_LW_who_21 (by decide) ?_
            refine Ev_ireturn (pc := 22) d_LW_who_22 rfl rfl ?_
            simp only [f_LW_who, if_neg q1, if_neg q2, if_neg q3, if_pos q5, if_neg q6] at k
            exact k
        · rw [if_neg q5]
          by_cases q7 : x2 = 3
          · rw [if_pos q7]
            refine Ev_i2l (pc := 8) d_LW_who_8 ?_
            refine Ev_last (pc := 9) d_LW_who_9 rfl rfl (by decide) (by decide) ?_
            refine Ev_goto (tgt := 21) (pc := 10) d_LW_who_10 rfl ?_
            refine Ev_iconst (v := 0) (pc := 21) d_LW_who_21 (by decide) ?_
            refine Ev_ireturn (pc := 22) d_LW_who_22 rfl rfl ?_
            simp only [f_LW_who, if_neg q1, if_neg q2, if_neg q3, if_neg q5, if_pos q7] at k
            exact k
          · rw [if_neg q7]
            by_cases q8 : x2 = 4
            · rw [if_pos q8]
              refine Ev_i2l (pc := 8) d_LW_who_8 ?_
              refine Ev_last (pc := 9) d_LW_who_9 rfl rfl (by decide) (by decide) ?_
              refine Ev_goto (tgt := 21) (pc := 10) d_LW_who_10 rfl ?_
              refine Ev_iconst (v := 0) (pc := 21) d_LW_who_21 (by decide) ?_
              refine Ev_ireturn (pc := 22) d_LW_who_22 rfl rfl ?_
              simp only [f_LW_who, if_neg q1, if_neg q2, if_neg q3, if_neg q5, if_neg q7, if_pos q8] at k
              exact k
            · rw [if_neg q8]
              refine Or.inr ⟨rfl, rfl, 17, rfl, fun xq => ?_⟩
              refine Ev_astore (pc := 17) d_LW_who_17 rfl ?_
              refine Ev_iconst (v := 2) (pc := 19) d_LW_who_19 (by decide) ?_
              refine Ev_ireturn (pc := 20) d_LW_who_20 rfl rfl ?_
              simp only [f_LW_who, if_neg q1, if_neg q2, if_neg q3, if_neg q5, if_neg q7, if_neg q8] at k
              exact k
def f_LW_why (h : ev_H) (x1 : Int32) (x2 : Int32) : Int32 × ev_H := ((if (f_TB_isBelow x1 (gI h 0 0 4)) = 0 then 1 else (if (f_TB_isBelow x2 (gI h 0 0 3)) = 0 then 1 else 0)), (if (f_TB_isBelow x1 (gI h 0 0 4)) = 0 then (nx h) else (if (f_TB_isBelow x2 (gI h 0 0 3)) = 0 then (nx h) else (sL h 0 27 0 ((f_RU_reason h x1.toNatClampNeg x2.toNatClampNeg).toInt64)))))
theorem c_LW_why {E : ev_E} {P : Option ev_V ⊕ Nat → ev_H → Prop} {h : ev_H} {x1 : Int32} {x2 : Int32} (hP : pok h) (hR : rfs h) (hZ : cZ h < ZM) (hU : uok h) (k : P (.inl (some (vI (f_LW_why h x1 x2).1))) (f_LW_why h x1 x2).2) : Ev E M_LW_why 0 [(0, vR 0 0), (1, vI x1), (2, vI x2), (3, vR 0 27)] [] h P := by
  refine Ev_aload_n (pc := 0) d_LW_why_0 rfl ?_
  refine Ev_iconst (v := 0) (pc := 1) d_LW_why_1 (by decide) ?_
  refine Ev_aload_n (pc := 2) d_LW_why_2 rfl ?_
  refine Ev_iload_n (pc := 3) d_LW_why_3 rfl ?_
  refine Ev_iload_n (pc := 4) d_LW_why_4 rfl ?_
  refine Ev_callV (M' := M_TB_why) (as := [vI x1, vI x2]) (st := [vI 0, vR 0 27]) (a := 0) (i := 0) (pc := 5) d_LW_why_5 rfl rfl rfl rfl rfl rfl rfl v_TB_why lk_LW_93 rfl rfl (c_TB_why hP hR hZ hU ?_)
  rw [f_TB_why]
  by_cases q1 : (f_TB_isBelow x1 (gI h 0 0 4)) = 0
  · rw [if_pos q1]
    refine Or.inr ⟨rfl, rfl, 13, rfl, fun xq => ?_⟩
    refine Ev_astore (pc := 13) d_LW_why_13 rfl ?_
    refine Ev_iconst (v := 1) (pc := 15) d_LW_why_15 (by decide) ?_
    refine Ev_ireturn (pc := 16) d_LW_why_16 rfl rfl ?_
    simp only [f_LW_why, if_pos q1] at k
    exact k
  · rw [if_neg q1]
    by_cases q2 : (f_TB_isBelow x2 (gI h 0 0 3)) = 0
    · rw [if_pos q2]
      refine Or.inr ⟨rfl, rfl, 13, rfl, fun xq => ?_⟩
      refine Ev_astore (pc := 13) d_LW_why_13 rfl ?_
      refine Ev_iconst (v := 1) (pc := 15) d_LW_why_15 (by decide) ?_
      refine Ev_ireturn (pc := 16) d_LW_why_16 rfl rfl ?_
      simp only [f_LW_why, if_neg q1, if_pos q2] at k
      exact k
    · rw [if_neg q2]
      refine Ev_i2l (pc := 8) d_LW_why_8 ?_
      refine Ev_last (pc := 9) d_LW_why_9 rfl rfl (by decide) (by decide) ?_
      refine Ev_goto (tgt := 17) (pc := 10) d_LW_why_10 rfl ?_
      refine Ev_iconst (v := 0) (pc := 17) d_LW_why_17 (by decide) ?_
      refine Ev_ireturn (pc := 18) d_LW_why_18 rfl rfl ?_
      simp only [f_LW_why, if_neg q1, if_neg q2] at k
      exact k
def f_LW_offer (h : ev_H) (x1 : Int32) (x2 : Int32) (x3 : Int32) : Int32 × ev_H := ((if (f_TB_isBelow x1 (gI h 0 0 4)) = 0 then 1 else (if (f_TB_isBelow x2 4) = 0 then 2 else 0)), (if (f_TB_isBelow x1 (gI h 0 0 4)) = 0 then (nx h) else (if (f_TB_isBelow x2 4) = 0 then (nx h) else (sL (r_TB_offer_L36 (f_RK_empty h) x1 x2 x3 x1.toNatClampNeg (gI (f_RK_empty h) 0 0 3).toNatClampNeg) 0 27 0 ((f_RK_at (r_TB_offer_L36 (f_RK_empty h) x1 x2 x3 x1.toNatClampNeg (gI (f_RK_empty h) 0 0 3).toNatClampNeg) x3).toInt64)))))
theorem c_LW_offer {E : ev_E} {P : Option ev_V ⊕ Nat → ev_H → Prop} {h : ev_H} {x1 : Int32} {x2 : Int32} {x3 : Int32} (hP : pok h) (hR : rfs h) (hZ : cZ h < ZM) (n3 : (gI h 0 0 3).toNatClampNeg ≤ 48) (n4 : ∀ b, b ≤ (gI h 0 0 3).toNatClampNeg → (gI (r_TB_offer_L36 (f_RK_empty h) x1 x2 x3 x1.toNatClampNeg b) 0 0 3) = nI (gI h 0 0 3).toNatClampNeg) (n5 : ∀ b, b < (gI h 0 0 3).toNatClampNeg → rfs (r_TB_offer_L36 (f_RK_empty h) x1 x2 x3 x1.toNatClampNeg b)) (n6 : ∀ b, b < (gI h 0 0 3).toNatClampNeg → gR (r_TB_offer_L36 (f_RK_empty h) x1 x2 x3 x1.toNatClampNeg b) 0 1 b = vR 1 b) (n7 : ∀ b, b < (gI h 0 0 3).toNatClampNeg → (gI (r_TB_offer_L36 (f_RK_empty h) x1 x2 x3 x1.toNatClampNeg b) 0 3 2) = nI (gI (r_TB_offer_L36 (f_RK_empty h) x1 x2 x3 x1.toNatClampNeg b) 0 3 2).toNatClampNeg) (n8 : ∀ b, b < (gI h 0 0 3).toNatClampNeg → (gI (r_TB_offer_L36 (f_RK_empty h) x1 x2 x3 x1.toNatClampNeg b) 0 3 2).toNatClampNeg < 48) (n9 : rfs (r_TB_offer_L36 (f_RK_empty h) x1 x2 x3 x1.toNatClampNeg (gI h 0 0 3).toNatClampNeg)) (n10 : gI (r_TB_offer_L36 (f_RK_empty h) x1 x2 x3 x1.toNatClampNeg (gI h 0 0 3).toNatClampNeg) 0 3 2 ≤ 48) (k : P (.inl (some (vI (f_LW_offer h x1 x2 x3).1))) (f_LW_offer h x1 x2 x3).2) : Ev E M_LW_offer 0 [(0, vR 0 0), (1, vI x1), (2, vI x2), (3, vI x3), (4, vR 0 27)] [] h P := by
  refine Ev_aload (pc := 0) d_LW_offer_0 rfl ?_
  refine Ev_iconst (v := 0) (pc := 2) d_LW_offer_2 (by decide) ?_
  refine Ev_aload_n (pc := 3) d_LW_offer_3 rfl ?_
  refine Ev_iload_n (pc := 4) d_LW_offer_4 rfl ?_
  refine Ev_iload_n (pc := 5) d_LW_offer_5 rfl ?_
  refine Ev_iload_n (pc := 6) d_LW_offer_6 rfl ?_
  refine Ev_callV (M' := M_TB_offer) (as := [vI x1, vI x2, vI x3]) (st := [vI 0, vR 0 27]) (a := 0) (i := 0) (pc := 7) d_LW_offer_7 rfl rfl rfl rfl rfl rfl rfl v_TB_offer lk_LW_96 rfl rfl (c_TB_offer hP hR hZ n3 n4 n5 n6 n7 n8 n9 n10 ?_)
  rw [f_TB_offer]
  by_cases q1 : (f_TB_isBelow x1 (gI h 0 0 4)) = 0
  · rw [if_pos q1]
    refine Or.inr ⟨rfl, rfl, 15, rfl, fun xq => ?_⟩
    refine Ev_astore (pc := 15) d_LW_offer_15 rfl ?_
    refine Ev_iconst (v := 1) (pc := 17) d_LW_offer_17 (by decide) ?_
    refine Ev_ireturn (pc := 18) d_LW_offer_18 rfl rfl ?_
    simp only [f_LW_offer, if_pos q1] at k
    exact k
  · rw [if_neg q1]
    by_cases q2 : (f_TB_isBelow x2 4) = 0
    · rw [if_pos q2]
      refine Or.inr ⟨rfl, rfl, 19, rfl, fun xq => ?_⟩
      refine Ev_astore (pc := 19) d_LW_offer_19 rfl ?_
      refine Ev_iconst (v := 2) (pc := 21) d_LW_offer_21 (by decide) ?_
      refine Ev_ireturn (pc := 22) d_LW_offer_22 rfl rfl ?_
      simp only [f_LW_offer, if_neg q1, if_pos q2] at k
      exact k
    · rw [if_neg q2]
      refine Ev_i2l (pc := 10) d_LW_offer_10 ?_
      refine Ev_last (pc := 11) d_LW_offer_11 rfl rfl (by decide) (by decide) ?_
      refine Ev_goto (tgt := 23) (pc := 12) d_LW_offer_12 rfl ?_
      refine Ev_iconst (v := 0) (pc := 23) d_LW_offer_23 (by decide) ?_
      refine Ev_ireturn (pc := 24) d_LW_offer_24 rfl rfl ?_
      simp only [f_LW_offer, if_neg q1, if_neg q2] at k
      exact k
def f_LW_stock (h : ev_H) (x1 : Int32) (x2 : Int32) (x3 : Int32) : Int32 × ev_H := ((if (f_TB_isBelow x1 4) = 0 then 1 else (if (m_TB_stock_10 x1 x2 x3) = 0 then (if (f_TB_isBelow x2 4) = 0 then 1 else (if (m_TB_stock_22 x1 x2 x3) = 0 then (if (f_TB_isBelow x3 2) = 0 then 1 else 0) else 0)) else (if (m_TB_stock_22 x1 x2 x3) = 0 then (if (f_TB_isBelow x3 2) = 0 then 1 else 0) else 0))), (if (f_TB_isBelow x1 4) = 0 then (nx h) else (if (m_TB_stock_10 x1 x2 x3) = 0 then (if (f_TB_isBelow x2 4) = 0 then (nx h) else (if (m_TB_stock_22 x1 x2 x3) = 0 then (if (f_TB_isBelow x3 2) = 0 then (nx h) else (sL h 0 27 0 ((r_TB_stock_L75 h x1 x2 x3 (m_TB_stock_10 x1 x2 x3) (m_TB_stock_22 x1 x2 x3) (gI h 0 0 3).toNatClampNeg).toInt64))) else (sL h 0 27 0 ((r_TB_stock_L75 h x1 x2 x3 (m_TB_stock_10 x1 x2 x3) (m_TB_stock_22 x1 x2 x3) (gI h 0 0 3).toNatClampNeg).toInt64)))) else (if (m_TB_stock_22 x1 x2 x3) = 0 then (if (f_TB_isBelow x3 2) = 0 then (nx h) else (sL h 0 27 0 ((r_TB_stock_L75 h x1 x2 x3 (m_TB_stock_10 x1 x2 x3) (m_TB_stock_22 x1 x2 x3) (gI h 0 0 3).toNatClampNeg).toInt64))) else (sL h 0 27 0 ((r_TB_stock_L75 h x1 x2 x3 (m_TB_stock_10 x1 x2 x3) (m_TB_stock_22 x1 x2 x3) (gI h 0 0 3).toNatClampNeg).toInt64))))))
theorem c_LW_stock {E : ev_E} {P : Option ev_V ⊕ Nat → ev_H → Prop} {h : ev_H} {x1 : Int32} {x2 : Int32} {x3 : Int32} (hZ : cZ h < ZM) (n1 : (gI h 0 0 3).toNatClampNeg ≤ 48) (n2 : (gI h 0 0 3) = nI (gI h 0 0 3).toNatClampNeg) (hR : rfs h) (n4 : ∀ b, b < (gI h 0 0 3).toNatClampNeg → gR h 0 1 b = vR 1 b) (k : P (.inl (some (vI (f_LW_stock h x1 x2 x3).1))) (f_LW_stock h x1 x2 x3).2) : Ev E M_LW_stock 0 [(0, vR 0 0), (1, vI x1), (2, vI x2), (3, vI x3), (4, vR 0 27)] [] h P := by
  refine Ev_aload (pc := 0) d_LW_stock_0 rfl ?_
  refine Ev_iconst (v := 0) (pc := 2) d_LW_stock_2 (by decide) ?_
  refine Ev_aload_n (pc := 3) d_LW_stock_3 rfl ?_
  refine Ev_iload_n (pc := 4) d_LW_stock_4 rfl ?_
  refine Ev_iload_n (pc := 5) d_LW_stock_5 rfl ?_
  refine Ev_iload_n (pc := 6) d_LW_stock_6 rfl ?_
  refine Ev_callV (M' := M_TB_stock) (as := [vI x1, vI x2, vI x3]) (st := [vI 0, vR 0 27]) (a := 0) (i := 0) (pc := 7) d_LW_stock_7 rfl rfl rfl rfl rfl rfl rfl v_TB_stock lk_LW_99 rfl rfl (c_TB_stock hZ n1 n2 hR n4 ?_)
  rw [f_TB_stock]
  rw [f_TB_stock_10]
  rw [f_TB_stock_22]
  by_cases q1 : (f_TB_isBelow x1 4) = 0
  · rw [if_pos q1]
    refine Or.inr ⟨rfl, rfl, 15, rfl, fun xq => ?_⟩
    refine Ev_astore (pc := 15) d_LW_stock_15 rfl ?_
    refine Ev_iconst (v := 1) (pc := 17) d_LW_stock_17 (by decide) ?_
    refine Ev_ireturn (pc := 18) d_LW_stock_18 rfl rfl ?_
    simp only [f_LW_stock, if_pos q1] at k
    exact k
  · rw [if_neg q1]
    by_cases q2 : (m_TB_stock_10 x1 x2 x3) = 0
    · rw [if_pos q2]
      by_cases q3 : (f_TB_isBelow x2 4) = 0
      · rw [if_pos q3]
        refine Or.inr ⟨rfl, rfl, 15, rfl, fun xq => ?_⟩
        refine Ev_astore (pc := 15) d_LW_stock_15 rfl ?_
        refine Ev_iconst (v := 1) (pc := 17) d_LW_stock_17 (by decide) ?_
        refine Ev_ireturn (pc := 18) d_LW_stock_18 rfl rfl ?_
        simp only [f_LW_stock, if_neg q1, if_pos q2, if_pos q3] at k
        exact k
      · rw [if_neg q3]
        by_cases q4 : (m_TB_stock_22 x1 x2 x3) = 0
        · rw [if_pos q4]
          by_cases q5 : (f_TB_isBelow x3 2) = 0
          · rw [if_pos q5]
            refine Or.inr ⟨rfl, rfl, 15, rfl, fun xq => ?_⟩
            refine Ev_astore (pc := 15) d_LW_stock_15 rfl ?_
            refine Ev_iconst (v := 1) (pc := 17) d_LW_stock_17 (by decide) ?_
            refine Ev_ireturn (pc := 18) d_LW_stock_18 rfl rfl ?_
            simp only [f_LW_stock, if_neg q1, if_pos q2, if_neg q3, if_pos q4, if_pos q5] at k
            exact k
          · rw [if_neg q5]
            refine Ev_i2l (pc := 10) d_LW_stock_10 ?_
            refine Ev_last (pc := 11) d_LW_stock_11 rfl rfl (by decide) (by decide) ?_
            refine Ev_goto (tgt := 19) (pc := 12) d_LW_stock_12 rfl ?_
            refine Ev_iconst (v := 0) (pc := 19) d_LW_stock_19 (by decide) ?_
            refine Ev_ireturn (pc := 20) d_LW_stock_20 rfl rfl ?_
            simp only [f_LW_stock, if_neg q1, if_pos q2, if_neg q3, if_pos q4, if_neg q5] at k
            exact k
        · rw [if_neg q4]
          refine Ev_i2l (pc := 10) d_LW_stock_10 ?_
          refine Ev_last (pc := 11) d_LW_stock_11 rfl rfl (by decide) (by decide) ?_
          refine Ev_goto (tgt := 19) (pc := 12) d_LW_stock_12 rfl ?_
          refine Ev_iconst (v := 0) (pc := 19) d_LW_stock_19 (by decide) ?_
          refine Ev_ireturn (pc := 20) d_LW_stock_20 rfl rfl ?_
          simp only [f_LW_stock, if_neg q1, if_pos q2, if_neg q3, if_neg q4] at k
          exact k
    · rw [if_neg q2]
      by_cases q6 : (m_TB_stock_22 x1 x2 x3) = 0
      · rw [if_pos q6]
        by_cases q7 : (f_TB_isBelow x3 2) = 0
        · rw [if_pos q7]
          refine Or.inr ⟨rfl, rfl, 15, rfl, fun xq => ?_⟩
          refine Ev_astore (pc := 15) d_LW_stock_15 rfl ?_
          refine Ev_iconst (v := 1) (pc := 17) d_LW_stock_17 (by decide) ?_
          refine Ev_ireturn (pc := 18) d_LW_stock_18 rfl rfl ?_
          simp only [f_LW_stock, if_neg q1, if_neg q2, if_pos q6, if_pos q7] at k
          exact k
        · rw [if_neg q7]
          refine Ev_i2l (pc := 10) d_LW_stock_10 ?_
          refine Ev_last (pc := 11) d_LW_stock_11 rfl rfl (by decide) (by decide) ?_
          refine Ev_goto (tgt := 19) (pc := 12) d_LW_stock_12 rfl ?_
          refine Ev_iconst (v := 0) (pc := 19) d_LW_stock_19 (by decide) ?_
          refine Ev_ireturn (pc := 20) d_LW_stock_20 rfl rfl ?_
          simp only [f_LW_stock, if_neg q1, if_neg q2, if_pos q6, if_neg q7] at k
          exact k
      · rw [if_neg q6]
        refine Ev_i2l (pc := 10) d_LW_stock_10 ?_
        refine Ev_last (pc := 11) d_LW_stock_11 rfl rfl (by decide) (by decide) ?_
        refine Ev_goto (tgt := 19) (pc := 12) d_LW_stock_12 rfl ?_
        refine Ev_iconst (v := 0) (pc := 19) d_LW_stock_19 (by decide) ?_
        refine Ev_ireturn (pc := 20) d_LW_stock_20 rfl rfl ?_
        simp only [f_LW_stock, if_neg q1, if_neg q2, if_neg q6] at k
        exact k
def f_LW_expiring (h : ev_H) (x1 : Int32) (x2 : Int32) : Int32 × ev_H := ((if x1 < 0 then 1 else (if x1 ≤ 60000 then 0 else 1)), (if x1 < 0 then (nx h) else (if x1 ≤ 60000 then (sL (r_TB_expiring_L30 (f_RK_empty h) x1 x2 (gI (f_RK_empty h) 0 0 3).toNatClampNeg) 0 27 0 ((f_RK_at (r_TB_expiring_L30 (f_RK_empty h) x1 x2 (gI (f_RK_empty h) 0 0 3).toNatClampNeg) x2).toInt64)) else (nx h))))
theorem c_LW_expiring {E : ev_E} {P : Option ev_V ⊕ Nat → ev_H → Prop} {h : ev_H} {x1 : Int32} {x2 : Int32} (hZ : cZ h < ZM) (hR : rfs h) (n2 : (gI h 0 0 3).toNatClampNeg ≤ 48) (n3 : ∀ b, b ≤ (gI h 0 0 3).toNatClampNeg → (gI (r_TB_expiring_L30 (f_RK_empty h) x1 x2 b) 0 0 3) = nI (gI h 0 0 3).toNatClampNeg) (n4 : ∀ b, b < (gI h 0 0 3).toNatClampNeg → rfs (r_TB_expiring_L30 (f_RK_empty h) x1 x2 b)) (n5 : ∀ b, b < (gI h 0 0 3).toNatClampNeg → gR (r_TB_expiring_L30 (f_RK_empty h) x1 x2 b) 0 1 b = vR 1 b) (n6 : ∀ b, b < (gI h 0 0 3).toNatClampNeg → (gI (r_TB_expiring_L30 (f_RK_empty h) x1 x2 b) 0 3 2) = nI (gI (r_TB_expiring_L30 (f_RK_empty h) x1 x2 b) 0 3 2).toNatClampNeg) (n7 : ∀ b, b < (gI h 0 0 3).toNatClampNeg → (gI (r_TB_expiring_L30 (f_RK_empty h) x1 x2 b) 0 3 2).toNatClampNeg < 48) (n8 : rfs (r_TB_expiring_L30 (f_RK_empty h) x1 x2 (gI h 0 0 3).toNatClampNeg)) (n9 : gI (r_TB_expiring_L30 (f_RK_empty h) x1 x2 (gI h 0 0 3).toNatClampNeg) 0 3 2 ≤ 48) (k : P (.inl (some (vI (f_LW_expiring h x1 x2).1))) (f_LW_expiring h x1 x2).2) : Ev E M_LW_expiring 0 [(0, vR 0 0), (1, vI x1), (2, vI x2), (3, vR 0 27)] [] h P := by
  refine Ev_aload_n (pc := 0) d_LW_expiring_0 rfl ?_
  refine Ev_iconst (v := 0) (pc := 1) d_LW_expiring_1 (by decide) ?_
  refine Ev_aload_n (pc := 2) d_LW_expiring_2 rfl ?_
  refine Ev_iload_n (pc := 3) d_LW_expiring_3 rfl ?_
  refine Ev_iload_n (pc := 4) d_LW_expiring_4 rfl ?_
  refine Ev_callV (M' := M_TB_expiring) (as := [vI x1, vI x2]) (st := [vI 0, vR 0 27]) (a := 0) (i := 0) (pc := 5) d_LW_expiring_5 rfl rfl rfl rfl rfl rfl rfl v_TB_expiring lk_LW_102 rfl rfl (c_TB_expiring hZ hR n2 n3 n4 n5 n6 n7 n8 n9 ?_)
  rw [f_TB_expiring]
  by_cases q1 : x1 < 0
  · rw [if_pos q1]
    refine Or.inr ⟨rfl, rfl, 13, rfl, fun xq => ?_⟩
    refine Ev_astore (pc := 13) d_LW_expiring_13 rfl ?_
    refine Ev_iconst (v := 1) (pc := 15) d_LW_expiring_15 (by decide) ?_
    refine Ev_ireturn (pc := 16) d_LW_expiring_16 rfl rfl ?_
    simp only [f_LW_expiring, if_pos q1] at k
    exact k
  · rw [if_neg q1]
    by_cases q2 : x1 ≤ 60000
    · rw [if_pos q2]
      refine Ev_i2l (pc := 8) d_LW_expiring_8 ?_
      refine Ev_last (pc := 9) d_LW_expiring_9 rfl rfl (by decide) (by decide) ?_
      refine Ev_goto (tgt := 17) (pc := 10) d_LW_expiring_10 rfl ?_
      refine Ev_iconst (v := 0) (pc := 17) d_LW_expiring_17 (by decide) ?_
      refine Ev_ireturn (pc := 18) d_LW_expiring_18 rfl rfl ?_
      simp only [f_LW_expiring, if_neg q1, if_pos q2] at k
      exact k
    · rw [if_neg q2]
      refine Or.inr ⟨rfl, rfl, 13, rfl, fun xq => ?_⟩
      refine Ev_astore (pc := 13) d_LW_expiring_13 rfl ?_
      refine Ev_iconst (v := 1) (pc := 15) d_LW_expiring_15 (by decide) ?_
      refine Ev_ireturn (pc := 16) d_LW_expiring_16 rfl rfl ?_
      simp only [f_LW_expiring, if_neg q1, if_neg q2] at k
      exact k
def f_LW_lookback (h : ev_H) (x1 : Int32) (x2 : Int32) : Int32 × ev_H := ((if (f_TB_isBelow x1 16) = 0 then 1 else 0), (if (f_TB_isBelow x1 16) = 0 then (nx h) else (sL (r_TB_lookback_L28 (f_RK_empty h) x1 x2 (gI (f_RK_empty h) 0 0 4).toNatClampNeg) 0 27 0 ((f_RK_at (r_TB_lookback_L28 (f_RK_empty h) x1 x2 (gI (f_RK_empty h) 0 0 4).toNatClampNeg) x2).toInt64))))
theorem c_LW_lookback {E : ev_E} {P : Option ev_V ⊕ Nat → ev_H → Prop} {h : ev_H} {x1 : Int32} {x2 : Int32} (hR : rfs h) (n1 : (gI h 0 0 4).toNatClampNeg ≤ 10) (n2 : ∀ b, b ≤ (gI h 0 0 4).toNatClampNeg → (gI (r_TB_lookback_L28 (f_RK_empty h) x1 x2 b) 0 0 4) = nI (gI h 0 0 4).toNatClampNeg) (n3 : ∀ b, b < (gI h 0 0 4).toNatClampNeg → (gI (r_TB_lookback_L28 (f_RK_empty h) x1 x2 b) 0 0 3).toNatClampNeg ≤ 48) (n4 : ∀ b, b < (gI h 0 0 4).toNatClampNeg → (gI (r_TB_lookback_L28 (f_RK_empty h) x1 x2 b) 0 0 3) = nI (gI (r_TB_lookback_L28 (f_RK_empty h) x1 x2 b) 0 0 3).toNatClampNeg) (n5 : ∀ b, b < (gI h 0 0 4).toNatClampNeg → rfs (r_TB_lookback_L28 (f_RK_empty h) x1 x2 b)) (n6 : ∀ a, a < (gI h 0 0 4).toNatClampNeg → ∀ b, b < (gI (r_TB_lookback_L28 (f_RK_empty h) x1 x2 a) 0 0 3).toNatClampNeg → gR (r_TB_lookback_L28 (f_RK_empty h) x1 x2 a) 0 1 b = vR 1 b) (n7 : ∀ b, b < (gI h 0 0 4).toNatClampNeg → (gI (r_TB_lookback_L28 (f_RK_empty h) x1 x2 b) 0 3 2) = nI (gI (r_TB_lookback_L28 (f_RK_empty h) x1 x2 b) 0 3 2).toNatClampNeg) (n8 : ∀ b, b < (gI h 0 0 4).toNatClampNeg → (gI (r_TB_lookback_L28 (f_RK_empty h) x1 x2 b) 0 3 2).toNatClampNeg < 48) (n9 : rfs (r_TB_lookback_L28 (f_RK_empty h) x1 x2 (gI h 0 0 4).toNatClampNeg)) (n10 : gI (r_TB_lookback_L28 (f_RK_empty h) x1 x2 (gI h 0 0 4).toNatClampNeg) 0 3 2 ≤ 48) (hZ : cZ h < ZM) (k : P (.inl (some (vI (f_LW_lookback h x1 x2).1))) (f_LW_lookback h x1 x2).2) : Ev E M_LW_lookback 0 [(0, vR 0 0), (1, vI x1), (2, vI x2), (3, vR 0 27)] [] h P := by
  refine Ev_aload_n (pc := 0) d_LW_lookback_0 rfl ?_
  refine Ev_iconst (v := 0) (pc := 1) d_LW_lookback_1 (by decide) ?_
  refine Ev_aload_n (pc := 2) d_LW_lookback_2 rfl ?_
  refine Ev_iload_n (pc := 3) d_LW_lookback_3 rfl ?_
  refine Ev_iload_n (pc := 4) d_LW_lookback_4 rfl ?_
  refine Ev_callV (M' := M_TB_lookback) (as := [vI x1, vI x2]) (st := [vI 0, vR 0 27]) (a := 0) (i := 0) (pc := 5) d_LW_lookback_5 rfl rfl rfl rfl rfl rfl rfl v_TB_lookback lk_LW_105 rfl rfl (c_TB_lookback hR n1 n2 n3 n4 n5 n6 n7 n8 n9 n10 hZ ?_)
  rw [f_TB_lookback]
  by_cases q1 : (f_TB_isBelow x1 16) = 0
  · rw [if_pos q1]
    refine Or.inr ⟨rfl, rfl, 13, rfl, fun xq => ?_⟩
    refine Ev_astore (pc := 13) d_LW_lookback_13 rfl ?_
    refine Ev_iconst (v := 1) (pc := 15) d_LW_lookback_15 (by decide) ?_
    refine Ev_ireturn (pc := 16) d_LW_lookback_16 rfl rfl ?_
    simp only [f_LW_lookback, if_pos q1] at k
    exact k
  · rw [if_neg q1]
    refine Ev_i2l (pc := 8) d_LW_lookback_8 ?_
    refine Ev_last (pc := 9) d_LW_lookback_9 rfl rfl (by decide) (by decide) ?_
    refine Ev_goto (tgt := 17) (pc := 10) d_LW_lookback_10 rfl ?_
    refine Ev_iconst (v := 0) (pc := 17) d_LW_lookback_17 (by decide) ?_
    refine Ev_ireturn (pc := 18) d_LW_lookback_18 rfl rfl ?_
    simp only [f_LW_lookback, if_neg q1] at k
    exact k
def f_LW_received (h : ev_H) (x1 : Int32) (x2 : Int32) : Int32 × ev_H := ((if (f_TB_isBelow x1 (gI h 0 0 4)) = 0 then 1 else 0), (if (f_TB_isBelow x1 (gI h 0 0 4)) = 0 then (nx h) else (sL (r_TB_received_L15 (f_RK_empty h) x1 x2 (gI (f_RK_empty h) 0 0 3).toNatClampNeg) 0 27 0 ((f_RK_at (r_TB_received_L15 (f_RK_empty h) x1 x2 (gI (f_RK_empty h) 0 0 3).toNatClampNeg) x2).toInt64))))
theorem c_LW_received {E : ev_E} {P : Option ev_V ⊕ Nat → ev_H → Prop} {h : ev_H} {x1 : Int32} {x2 : Int32} (hP : pok h) (hR : rfs h) (hZ : cZ h < ZM) (n3 : (gI h 0 0 3).toNatClampNeg ≤ 48) (n4 : ∀ b, b ≤ (gI h 0 0 3).toNatClampNeg → (gI (r_TB_received_L15 (f_RK_empty h) x1 x2 b) 0 0 3) = nI (gI h 0 0 3).toNatClampNeg) (n5 : ∀ b, b < (gI h 0 0 3).toNatClampNeg → rfs (r_TB_received_L15 (f_RK_empty h) x1 x2 b)) (n6 : ∀ b, b < (gI h 0 0 3).toNatClampNeg → gR (r_TB_received_L15 (f_RK_empty h) x1 x2 b) 0 1 b = vR 1 b) (n7 : ∀ b, b < (gI h 0 0 3).toNatClampNeg → (gI (r_TB_received_L15 (f_RK_empty h) x1 x2 b) 0 3 2) = nI (gI (r_TB_received_L15 (f_RK_empty h) x1 x2 b) 0 3 2).toNatClampNeg) (n8 : ∀ b, b < (gI h 0 0 3).toNatClampNeg → (gI (r_TB_received_L15 (f_RK_empty h) x1 x2 b) 0 3 2).toNatClampNeg < 48) (n9 : rfs (r_TB_received_L15 (f_RK_empty h) x1 x2 (gI h 0 0 3).toNatClampNeg)) (n10 : gI (r_TB_received_L15 (f_RK_empty h) x1 x2 (gI h 0 0 3).toNatClampNeg) 0 3 2 ≤ 48) (k : P (.inl (some (vI (f_LW_received h x1 x2).1))) (f_LW_received h x1 x2).2) : Ev E M_LW_received 0 [(0, vR 0 0), (1, vI x1), (2, vI x2), (3, vR 0 27)] [] h P := by
  refine Ev_aload_n (pc := 0) d_LW_received_0 rfl ?_
  refine Ev_iconst (v := 0) (pc := 1) d_LW_received_1 (by decide) ?_
  refine Ev_aload_n (pc := 2) d_LW_received_2 rfl ?_
  refine Ev_iload_n (pc := 3) d_LW_received_3 rfl ?_
  refine Ev_iload_n (pc := 4) d_LW_received_4 rfl ?_
  refine Ev_callV (M' := M_TB_received) (as := [vI x1, vI x2]) (st := [vI 0, vR 0 27]) (a := 0) (i := 0) (pc := 5) d_LW_received_5 rfl rfl rfl rfl rfl rfl rfl v_TB_received lk_LW_108 rfl rfl (c_TB_received hP hR hZ n3 n4 n5 n6 n7 n8 n9 n10 ?_)
  rw [f_TB_received]
  by_cases q1 : (f_TB_isBelow x1 (gI h 0 0 4)) = 0
  · rw [if_pos q1]
    refine Or.inr ⟨rfl, rfl, 13, rfl, fun xq => ?_⟩
    refine Ev_astore (pc := 13) d_LW_received_13 rfl ?_
    refine Ev_iconst (v := 1) (pc := 15) d_LW_received_15 (by decide) ?_
    refine Ev_ireturn (pc := 16) d_LW_received_16 rfl rfl ?_
    simp only [f_LW_received, if_pos q1] at k
    exact k
  · rw [if_neg q1]
    refine Ev_i2l (pc := 8) d_LW_received_8 ?_
    refine Ev_last (pc := 9) d_LW_received_9 rfl rfl (by decide) (by decide) ?_
    refine Ev_goto (tgt := 17) (pc := 10) d_LW_received_10 rfl ?_
    refine Ev_iconst (v := 0) (pc := 17) d_LW_received_17 (by decide) ?_
    refine Ev_ireturn (pc := 18) d_LW_received_18 rfl rfl ?_
    simp only [f_LW_received, if_neg q1] at k
    exact k
def f_LW_count (h : ev_H) (x1 : Int32) (x2 : Int32) : Int32 × ev_H := ((if (f_TB_isBelow x1 4) = 0 then 1 else (if (f_TB_isBelow x2 6) = 0 then 1 else 0)), (if (f_TB_isBelow x1 4) = 0 then (nx h) else (if (f_TB_isBelow x2 6) = 0 then (nx h) else (sL h 0 27 0 ((r_TB_count_L33 h x1 x2 (gI h 0 0 3).toNatClampNeg).toInt64)))))
theorem c_LW_count {E : ev_E} {P : Option ev_V ⊕ Nat → ev_H → Prop} {h : ev_H} {x1 : Int32} {x2 : Int32} (hZ : cZ h < ZM) (n1 : (gI h 0 0 3).toNatClampNeg ≤ 48) (n2 : (gI h 0 0 3) = nI (gI h 0 0 3).toNatClampNeg) (hR : rfs h) (n4 : ∀ b, b < (gI h 0 0 3).toNatClampNeg → gR h 0 1 b = vR 1 b) (k : P (.inl (some (vI (f_LW_count h x1 x2).1))) (f_LW_count h x1 x2).2) : Ev E M_LW_count 0 [(0, vR 0 0), (1, vI x1), (2, vI x2), (3, vR 0 27)] [] h P := by
  refine Ev_aload_n (pc := 0) d_LW_count_0 rfl ?_
  refine Ev_iconst (v := 0) (pc := 1) d_LW_count_1 (by decide) ?_
  refine Ev_aload_n (pc := 2) d_LW_count_2 rfl ?_
  refine Ev_iload_n (pc := 3) d_LW_count_3 rfl ?_
  refine Ev_iload_n (pc := 4) d_LW_count_4 rfl ?_
  refine Ev_callV (M' := M_TB_count) (as := [vI x1, vI x2]) (st := [vI 0, vR 0 27]) (a := 0) (i := 0) (pc := 5) d_LW_count_5 rfl rfl rfl rfl rfl rfl rfl v_TB_count lk_LW_111 rfl rfl (c_TB_count hZ n1 n2 hR n4 ?_)
  rw [f_TB_count]
  by_cases q1 : (f_TB_isBelow x1 4) = 0
  · rw [if_pos q1]
    refine Or.inr ⟨rfl, rfl, 13, rfl, fun xq => ?_⟩
    refine Ev_astore (pc := 13) d_LW_count_13 rfl ?_
    refine Ev_iconst (v := 1) (pc := 15) d_LW_count_15 (by decide) ?_
    refine Ev_ireturn (pc := 16) d_LW_count_16 rfl rfl ?_
    simp only [f_LW_count, if_pos q1] at k
    exact k
  · rw [if_neg q1]
    by_cases q2 : (f_TB_isBelow x2 6) = 0
    · rw [if_pos q2]
      refine Or.inr ⟨rfl, rfl, 13, rfl, fun xq => ?_⟩
      refine Ev_astore (pc := 13) d_LW_count_13 rfl ?_
      refine Ev_iconst (v := 1) (pc := 15) d_LW_count_15 (by decide) ?_
      refine Ev_ireturn (pc := 16) d_LW_count_16 rfl rfl ?_
      simp only [f_LW_count, if_neg q1, if_pos q2] at k
      exact k
    · rw [if_neg q2]
      refine Ev_i2l (pc := 8) d_LW_count_8 ?_
      refine Ev_last (pc := 9) d_LW_count_9 rfl rfl (by decide) (by decide) ?_
      refine Ev_goto (tgt := 17) (pc := 10) d_LW_count_10 rfl ?_
      refine Ev_iconst (v := 0) (pc := 17) d_LW_count_17 (by decide) ?_
      refine Ev_ireturn (pc := 18) d_LW_count_18 rfl rfl ?_
      simp only [f_LW_count, if_neg q1, if_neg q2] at k
      exact k