/-! contracts (by program) -/
def f_MO_thrown (h : ev_H) : Int32 := (gI h 0 6 0)
theorem c_MO_thrown {E : ev_E} {P : Option ev_V ⊕ Nat → ev_H → Prop} {h : ev_H} (k : P (.inl (some (vI (f_MO_thrown h)))) h) : Ev E M_MO_thrown 0 [(0, vR 0 6)] [] h P := by
  refine Ev_aload_n (pc := 0) d_MO_thrown_0 rfl ?_
  refine Ev_getI (pc := 1) d_MO_thrown_1 rfl rfl rfl fl_MO_70 ?_
  refine Ev_ireturn (pc := 4) d_MO_thrown_4 rfl rfl ?_
  rw [f_MO_thrown] at k
  exact k
def m_MO_refused_35 (x1 : Int32) (x2 : Int32) (x3 : Int32) (x4 : Int32) : Int32 := (if x1 = 0 then (if x2 = 0 then (if x3 = 0 then (if x4 = 0 then 0 else 4) else 3) else 2) else 1)
def f_MO_refused_35 (h : ev_H) (x1 : Int32) (x2 : Int32) (x3 : Int32) (x4 : Int32) : Int32 × ev_H := ((if (gI (sI h 0 6 0 (m_MO_refused_35 x1 x2 x3 x4)) 0 6 0) ≤ 0 then 0 else 1), (sI h 0 6 0 (m_MO_refused_35 x1 x2 x3 x4)))
theorem c_MO_refused_35 {E : ev_E} {P : Option ev_V ⊕ Nat → ev_H → Prop} {h : ev_H} {x1 : Int32} {x2 : Int32} {x3 : Int32} {x4 : Int32} (k : P (.inl (some (vI (f_MO_refused_35 h x1 x2 x3 x4).1))) (f_MO_refused_35 h x1 x2 x3 x4).2) : Ev E M_MO_refused 35 [(0, vR 0 6), (1, vI x1), (2, vI x2), (3, vI x3), (4, vI x4)] [vI (m_MO_refused_35 x1 x2 x3 x4), vR 0 6] h P := by
  refine Ev_putI (pc := 35) d_MO_refused_35 rfl rfl rfl fl_MO_70 rfl ?_
  refine Ev_aload_n (pc := 38) d_MO_refused_38 rfl ?_
  refine Ev_getI (pc := 39) d_MO_refused_39 rfl rfl rfl fl_MO_70 ?_
  refine Ev_if_le (tgt := 49) (pc := 42) d_MO_refused_42 rfl (fun q5 => ?_) (fun q5 => ?_)
  · refine Ev_iconst (v := 0) (pc := 49) d_MO_refused_49 (by decide) ?_
    refine Ev_ireturn (pc := 50) d_MO_refused_50 rfl rfl ?_
    simp only [f_MO_refused_35, if_pos q5] at k
    exact k
  · refine Ev_iconst (v := 1) (pc := 45) d_MO_refused_45 (by decide) ?_
    refine Ev_goto (tgt := 50) (pc := 46) d_MO_refused_46 rfl ?_
    refine Ev_ireturn (pc := 50) d_MO_refused_50 rfl rfl ?_
    simp only [f_MO_refused_35, if_neg q5] at k
    exact k
def f_MO_refused (h : ev_H) (x1 : Int32) (x2 : Int32) (x3 : Int32) (x4 : Int32) : Int32 × ev_H := f_MO_refused_35 h x1 x2 x3 x4
theorem c_MO_refused {E : ev_E} {P : Option ev_V ⊕ Nat → ev_H → Prop} {h : ev_H} {x1 : Int32} {x2 : Int32} {x3 : Int32} {x4 : Int32} (k : P (.inl (some (vI (f_MO_refused h x1 x2 x3 x4).1))) (f_MO_refused h x1 x2 x3 x4).2) : Ev E M_MO_refused 0 [(0, vR 0 6), (1, vI x1), (2, vI x2), (3, vI x3), (4, vI x4)] [] h P := by
  refine Ev_aload_n (pc := 0) d_MO_refused_0 rfl ?_
  refine Ev_iload_n (pc := 1) d_MO_refused_1 rfl ?_
  refine Ev_if_eq (tgt := 9) (pc := 2) d_MO_refused_2 rfl (fun q1 => ?_) (fun q1 => ?_)
  · refine Ev_iload_n (pc := 9) d_MO_refused_9 rfl ?_
    refine Ev_if_eq (tgt := 17) (pc := 10) d_MO_refused_10 rfl (fun q6 => ?_) (fun q6 => ?_)
    · refine Ev_iload_n (pc := 17) d_MO_refused_17 rfl ?_
      refine Ev_if_eq (tgt := 25) (pc := 18) d_MO_refused_18 rfl (fun q7 => ?_) (fun q7 => ?_)
      · refine Ev_iload (pc := 25) d_MO_refused_25 rfl ?_
        refine Ev_if_eq (tgt := 34) (pc := 27) d_MO_refused_27 rfl (fun q8 => ?_) (fun q8 => ?_)
        · refine Ev_iconst (v := 0) (pc := 34) d_MO_refused_34 (by decide) ?_
          rw [f_MO_refused] at k
          have j := c_MO_refused_35 (E := E) (P := P) (h := h) (x1 := x1) (x2 := x2) (x3 := x3) (x4 := x4)  k
          rw [m_MO_refused_35, if_pos q1, if_pos q6, if_pos q7, if_pos q8] at j
          exact j
        · refine Ev_iconst (v := 4) (pc := 30) d_MO_refused_30 (by decide) ?_
          refine Ev_goto (tgt := 35) (pc := 31) d_MO_refused_31 rfl ?_
          rw [f_MO_refused] at k
          have j := c_MO_refused_35 (E := E) (P := P) (h := h) (x1 := x1) (x2 := x2) (x3 := x3) (x4 := x4)  k
          rw [m_MO_refused_35, if_pos q1, if_pos q6, if_pos q7, if_neg q8] at j
          exact j
      · refine Ev_iconst (v := 3) (pc := 21) d_MO_refused_21 (by decide) ?_
        refine Ev_goto (tgt := 35) (pc := 22) d_MO_refused_22 rfl ?_
        rw [f_MO_refused] at k
        have j := c_MO_refused_35 (E := E) (P := P) (h := h) (x1 := x1) (x2 := x2) (x3 := x3) (x4 := x4)  k
        rw [m_MO_refused_35, if_pos q1, if_pos q6, if_neg q7] at j
        exact j
    · refine Ev_iconst (v := 2) (pc := 13) d_MO_refused_13 (by decide) ?_
      refine Ev_goto (tgt := 35) (pc := 14) d_MO_refused_14 rfl ?_
      rw [f_MO_refused] at k
      have j := c_MO_refused_35 (E := E) (P := P) (h := h) (x1 := x1) (x2 := x2) (x3 := x3) (x4 := x4)  k
      rw [m_MO_refused_35, if_pos q1, if_neg q6] at j
      exact j
  · refine Ev_iconst (v := 1) (pc := 5) d_MO_refused_5 (by decide) ?_
    refine Ev_goto (tgt := 35) (pc := 6) d_MO_refused_6 rfl ?_
    rw [f_MO_refused] at k
    have j := c_MO_refused_35 (E := E) (P := P) (h := h) (x1 := x1) (x2 := x2) (x3 := x3) (x4 := x4)  k
    rw [m_MO_refused_35, if_neg q1] at j
    exact j
theorem f_MO_refused1 {h : ev_H} {x2 x3 x4 : Int32} : f_MO_refused h 1 x2 x3 x4 = (1, sI h 0 6 0 1) := by
  have e1 : m_MO_refused_35 1 x2 x3 x4 = 1 := by rw [m_MO_refused_35, if_neg (by decide)]
  have e2 : gI (sI h 0 6 0 1) 0 6 0 = 1 := rfl
  unfold f_MO_refused f_MO_refused_35
  rw [e1, e2, if_neg (by decide)]
theorem c_MO_refused1 {E : ev_E} {P : Option ev_V ⊕ Nat → ev_H → Prop} {h : ev_H} {x2 x3 x4 : Int32} (k : P (.inl (some (vI 1))) (sI h 0 6 0 1)) : Ev E M_MO_refused 0 [(0, vR 0 6), (1, vI 1), (2, vI x2), (3, vI x3), (4, vI x4)] [] h P :=
  c_MO_refused (by rw [f_MO_refused1]; exact k)
def f_MO_in (x0 : Int32) (x1 : Int32) (x2 : Int32) : Int32 := (if x0 < x1 then 0 else (if x2 < x0 then 0 else 1))
theorem c_MO_in {E : ev_E} {P : Option ev_V ⊕ Nat → ev_H → Prop} {h : ev_H} {x0 : Int32} {x1 : Int32} {x2 : Int32} (k : P (.inl (some (vI (f_MO_in x0 x1 x2)))) h) : Ev E M_MO_in 0 [(0, vI x0), (1, vI x1), (2, vI x2)] [] h P := by
  refine Ev_iload_n (pc := 0) d_MO_in_0 rfl ?_
  refine Ev_iload_n (pc := 1) d_MO_in_1 rfl ?_
  refine Ev_icmp_lt (tgt := 14) (pc := 2) d_MO_in_2 rfl (fun q1 => ?_) (fun q1 => ?_)
  · refine Ev_iconst (v := 0) (pc := 14) d_MO_in_14 (by decide) ?_
    refine Ev_ireturn (pc := 15) d_MO_in_15 rfl rfl ?_
    rw [f_MO_in, if_pos q1] at k
    exact k
  · refine Ev_iload_n (pc := 5) d_MO_in_5 rfl ?_
    refine Ev_iload_n (pc := 6) d_MO_in_6 rfl ?_
    refine Ev_icmp_gt (tgt := 14) (pc := 7) d_MO_in_7 rfl (fun q2 => ?_) (fun q2 => ?_)
    · refine Ev_iconst (v := 0) (pc := 14) d_MO_in_14 (by decide) ?_
      refine Ev_ireturn (pc := 15) d_MO_in_15 rfl rfl ?_
      rw [f_MO_in, if_neg q1, if_pos q2] at k
      exact k
    · refine Ev_iconst (v := 1) (pc := 10) d_MO_in_10 (by decide) ?_
      refine Ev_goto (tgt := 15) (pc := 11) d_MO_in_11 rfl ?_
      refine Ev_ireturn (pc := 15) d_MO_in_15 rfl rfl ?_
      rw [f_MO_in, if_neg q1, if_neg q2] at k
      exact k
theorem b_f_MO_in {x0 : Int32} {x1 : Int32} {x2 : Int32} : f_MO_in x0 x1 x2 = 0 ∨ f_MO_in x0 x1 x2 = 1 := by
  unfold f_MO_in
  first | exact Or.inl rfl | exact Or.inr rfl | (repeat' (split)) <;> (first | exact Or.inl rfl | exact Or.inr rfl)
def f_MO_isUnit (h : ev_H) (x1 : Int32) : Int32 := (f_MO_in x1 0 ((gI h 0 6 2) - 1))
theorem c_MO_isUnit {E : ev_E} {P : Option ev_V ⊕ Nat → ev_H → Prop} {h : ev_H} {x1 : Int32} (k : P (.inl (some (vI (f_MO_isUnit h x1)))) h) : Ev E M_MO_isUnit 0 [(0, vR 0 6), (1, vI x1)] [] h P := by
  refine Ev_iload_n (pc := 0) d_MO_isUnit_0 rfl ?_
  refine Ev_iconst (v := 0) (pc := 1) d_MO_isUnit_1 (by decide) ?_
  refine Ev_aload_n (pc := 2) d_MO_isUnit_2 rfl ?_
  refine Ev_getI (pc := 3) d_MO_isUnit_3 rfl rfl rfl fl_MO_74 ?_
  refine Ev_iconst (v := 1) (pc := 6) d_MO_isUnit_6 (by decide) ?_
  refine Ev_isub (pc := 7) d_MO_isUnit_7 ?_
  refine Ev_callS (M' := M_MO_in) (as := [vI x1, vI 0, vI ((gI h 0 6 2) - 1)]) (st := []) (pc := 8) d_MO_isUnit_8 rfl rfl rfl s_MO_in lk_MO_77 rfl rfl (c_MO_in  ?_)
  refine Ev_ireturn (pc := 11) d_MO_isUnit_11 rfl (nar_b (b_f_MO_in)) ?_
  rw [f_MO_isUnit] at k
  exact k
theorem b_f_MO_isUnit {h : ev_H} {x1 : Int32} : f_MO_isUnit h x1 = 0 ∨ f_MO_isUnit h x1 = 1 := by
  unfold f_MO_isUnit
  first | exact Or.inl rfl | exact Or.inr rfl | (repeat' (split)) <;> (first | exact Or.inl rfl | exact Or.inr rfl | exact b_f_MO_in)
theorem c_MO_isUnitV {E : ev_E} {P : Option ev_V ⊕ Nat → ev_H → Prop} {h : ev_H} {x1 v : Int32} (hv : f_MO_isUnit h x1 = v) (k : P (.inl (some (vI v))) h) : Ev E M_MO_isUnit 0 [(0, vR 0 6), (1, vI x1)] [] h P :=
  c_MO_isUnit (by rw [hv]; exact k)
def f_MO_isPatient (h : ev_H) (x1 : Int32) : Int32 := (f_MO_in x1 0 ((gI h 0 6 19) - 1))
theorem c_MO_isPatient {E : ev_E} {P : Option ev_V ⊕ Nat → ev_H → Prop} {h : ev_H} {x1 : Int32} (k : P (.inl (some (vI (f_MO_isPatient h x1)))) h) : Ev E M_MO_isPatient 0 [(0, vR 0 6), (1, vI x1)] [] h P := by
  refine Ev_iload_n (pc := 0) d_MO_isPatient_0 rfl ?_
  refine Ev_iconst (v := 0) (pc := 1) d_MO_isPatient_1 (by decide) ?_
  refine Ev_aload_n (pc := 2) d_MO_isPatient_2 rfl ?_
  refine Ev_getI (pc := 3) d_MO_isPatient_3 rfl rfl rfl fl_MO_81 ?_
  refine Ev_iconst (v := 1) (pc := 6) d_MO_isPatient_6 (by decide) ?_
  refine Ev_isub (pc := 7) d_MO_isPatient_7 ?_
  refine Ev_callS (M' := M_MO_in) (as := [vI x1, vI 0, vI ((gI h 0 6 19) - 1)]) (st := []) (pc := 8) d_MO_isPatient_8 rfl rfl rfl s_MO_in lk_MO_77 rfl rfl (c_MO_in  ?_)
  refine Ev_ireturn (pc := 11) d_MO_isPatient_11 rfl (nar_b (b_f_MO_in)) ?_
  rw [f_MO_isPatient] at k
  exact k
theorem b_f_MO_isPatient {h : ev_H} {x1 : Int32} : f_MO_isPatient h x1 = 0 ∨ f_MO_isPatient h x1 = 1 := by
  unfold f_MO_isPatient
  first | exact Or.inl rfl | exact Or.inr rfl | (repeat' (split)) <;> (first | exact Or.inl rfl | exact Or.inr rfl | exact b_f_MO_in)
theorem c_MO_isPatientV {E : ev_E} {P : Option ev_V ⊕ Nat → ev_H → Prop} {h : ev_H} {x1 v : Int32} (hv : f_MO_isPatient h x1 = v) (k : P (.inl (some (vI v))) h) : Ev E M_MO_isPatient 0 [(0, vR 0 6), (1, vI x1)] [] h P :=
  c_MO_isPatient (by rw [hv]; exact k)
def m_MO_pass_16 (x1 : Int32) : Int32 := (if (f_MO_in x1 0 50000) = 0 then 1 else 0)
def f_MO_pass_16 (h : ev_H) (x1 : Int32) : Int32 × ev_H := ((if ((f_MO_refused h (m_MO_pass_16 x1) 0 0 0).1) = 0 then (gI (sI ((f_MO_refused h (m_MO_pass_16 x1) 0 0 0).2) 0 6 1 ((gI ((f_MO_refused h (m_MO_pass_16 x1) 0 0 0).2) 0 6 1) + x1)) 0 6 1) else 0), (if ((f_MO_refused h (m_MO_pass_16 x1) 0 0 0).1) = 0 then (sI ((f_MO_refused h (m_MO_pass_16 x1) 0 0 0).2) 0 6 1 ((gI ((f_MO_refused h (m_MO_pass_16 x1) 0 0 0).2) 0 6 1) + x1)) else ((f_MO_refused h (m_MO_pass_16 x1) 0 0 0).2)))
theorem c_MO_pass_16 {E : ev_E} {P : Option ev_V ⊕ Nat → ev_H → Prop} {h : ev_H} {x1 : Int32} (k : P (.inl (some (vI (f_MO_pass_16 h x1).1))) (f_MO_pass_16 h x1).2) : Ev E M_MO_pass 16 [(0, vR 0 6), (1, vI x1)] [vI (m_MO_pass_16 x1), vR 0 6] h P := by
  refine Ev_iconst (v := 0) (pc := 16) d_MO_pass_16 (by decide) ?_
  refine Ev_iconst (v := 0) (pc := 17) d_MO_pass_17 (by decide) ?_
  refine Ev_iconst (v := 0) (pc := 18) d_MO_pass_18 (by decide) ?_
  refine Ev_callV (M' := M_MO_refused) (as := [vI (m_MO_pass_16 x1), vI 0, vI 0, vI 0]) (st := []) (a := 0) (i := 6) (pc := 19) d_MO_pass_19 rfl rfl rfl rfl rfl rfl rfl v_MO_refused lk_MO_85 rfl rfl (c_MO_refused  ?_)
  refine Ev_if_eq (tgt := 27) (pc := 22) d_MO_pass_22 rfl (fun q2 => ?_) (fun q2 => ?_)
  · refine Ev_aload_n (pc := 27) d_MO_pass_27 rfl ?_
    refine Ev_aload_n (pc := 28) d_MO_pass_28 rfl ?_
    refine Ev_getI (pc := 29) d_MO_pass_29 rfl rfl rfl fl_MO_89 ?_
    refine Ev_iload_n (pc := 32) d_MO_pass_32 rfl ?_
    refine Ev_iadd (pc := 33) d_MO_pass_33 ?_
    refine Ev_putI (pc := 34) d_MO_pass_34 rfl rfl rfl fl_MO_89 rfl ?_
    refine Ev_aload_n (pc := 37) d_MO_pass_37 rfl ?_
    refine Ev_getI (pc := 38) d_MO_pass_38 rfl rfl rfl fl_MO_89 ?_
    refine Ev_ireturn (pc := 41) d_MO_pass_41 rfl rfl ?_
    simp only [f_MO_pass_16, if_pos q2] at k
    exact k
  · refine Ev_iconst (v := 0) (pc := 25) d_MO_pass_25 (by decide) ?_
    refine Ev_ireturn (pc := 26) d_MO_pass_26 rfl rfl ?_
    simp only [f_MO_pass_16, if_neg q2] at k
    exact k
def f_MO_pass (h : ev_H) (x1 : Int32) : Int32 × ev_H := f_MO_pass_16 h x1
theorem c_MO_pass {E : ev_E} {P : Option ev_V ⊕ Nat → ev_H → Prop} {h : ev_H} {x1 : Int32} (k : P (.inl (some (vI (f_MO_pass h x1).1))) (f_MO_pass h x1).2) : Ev E M_MO_pass 0 [(0, vR 0 6), (1, vI x1)] [] h P := by
  refine Ev_aload_n (pc := 0) d_MO_pass_0 rfl ?_
  refine Ev_iload_n (pc := 1) d_MO_pass_1 rfl ?_
  refine Ev_iconst (v := 0) (pc := 2) d_MO_pass_2 (by decide) ?_
  refine Ev_ldc (pc := 3) d_MO_pass_3 w_con_MO_84 ?_
  refine Ev_callS (M' := M_MO_in) (as := [vI x1, vI 0, vI 50000]) (st := [vR 0 6]) (pc := 5) d_MO_pass_5 rfl rfl rfl s_MO_in lk_MO_77 rfl rfl (c_MO_in  ?_)
  refine Ev_if_ne (tgt := 15) (pc := 8) d_MO_pass_8 rfl (fun q1 => ?_) (fun q1 => ?_)
  · refine Ev_iconst (v := 0) (pc := 15) d_MO_pass_15 (by decide) ?_
    rw [f_MO_pass] at k
    have j := c_MO_pass_16 (E := E) (P := P) (h := h) (x1 := x1)  k
    rw [m_MO_pass_16, if_neg q1] at j
    exact j
  · refine Ev_iconst (v := 1) (pc := 11) d_MO_pass_11 (by decide) ?_
    refine Ev_goto (tgt := 16) (pc := 12) d_MO_pass_12 rfl ?_
    rw [f_MO_pass] at k
    have j := c_MO_pass_16 (E := E) (P := P) (h := h) (x1 := x1)  k
    rw [m_MO_pass_16, if_pos q1] at j
    exact j
def f_MO_stateOf (h : ev_H) (x1 : Int32) : Int32 := (if (gI h 0 15 x1.toNatClampNeg) = 1 then (if ((gI h 0 6 1) - (gI h 0 17 x1.toNatClampNeg)) < 4320 then (gI h 0 15 x1.toNatClampNeg) else 0) else (gI h 0 15 x1.toNatClampNeg))
theorem c_MO_stateOf {E : ev_E} {P : Option ev_V ⊕ Nat → ev_H → Prop} {h : ev_H} {x1 : Int32} (hR : rfs h) (n1 : ¬ x1 < 0) (n2 : x1.toNatClampNeg < 48) (k : P (.inl (some (vI (f_MO_stateOf h x1)))) h) : Ev E M_MO_stateOf 0 [(0, vR 0 6), (1, vI x1)] [] h P := by
  refine Ev_aload_n (pc := 0) d_MO_stateOf_0 rfl ?_
  refine Ev_getR (pc := 1) d_MO_stateOf_1 rfl rfl rfl fl_MO_34 (rf_MO_11 hR) ?_
  refine Ev_iload_n (pc := 4) d_MO_stateOf_4 rfl ?_
  refine Ev_iald (pc := 5) d_MO_stateOf_5 rfl rfl n1 n2 ?_
  refine Ev_iconst (v := 1) (pc := 6) d_MO_stateOf_6 (by decide) ?_
  refine Ev_icmp_ne (tgt := 31) (pc := 7) d_MO_stateOf_7 rfl (fun q1 => ?_) (fun q1 => ?_)
  · refine Ev_aload_n (pc := 31) d_MO_stateOf_31 rfl ?_
    refine Ev_getR (pc := 32) d_MO_stateOf_32 rfl rfl rfl fl_MO_34 (rf_MO_11 hR) ?_
    refine Ev_iload_n (pc := 35) d_MO_stateOf_35 rfl ?_
    refine Ev_iald (pc := 36) d_MO_stateOf_36 rfl rfl n1 n2 ?_
    refine Ev_ireturn (pc := 37) d_MO_stateOf_37 rfl rfl ?_
    rw [f_MO_stateOf, if_neg q1] at k
    exact k
  · refine Ev_aload_n (pc := 10) d_MO_stateOf_10 rfl ?_
    refine Ev_getI (pc := 11) d_MO_stateOf_11 rfl rfl rfl fl_MO_89 ?_
    refine Ev_aload_n (pc := 14) d_MO_stateOf_14 rfl ?_
    refine Ev_getR (pc := 15) d_MO_stateOf_15 rfl rfl rfl fl_MO_40 (rf_MO_13 hR) ?_
    refine Ev_iload_n (pc := 18) d_MO_stateOf_18 rfl ?_
    refine Ev_iald (pc := 19) d_MO_stateOf_19 rfl rfl n1 n2 ?_
    refine Ev_isub (pc := 20) d_MO_stateOf_20 ?_
    refine Ev_sipush (v := 4320) (pc := 21) d_MO_stateOf_21 (by decide) ?_
    refine Ev_icmp_lt (tgt := 31) (pc := 24) d_MO_stateOf_24 rfl (fun q2 => ?_) (fun q2 => ?_)
    · refine Ev_aload_n (pc := 31) d_MO_stateOf_31 rfl ?_
      refine Ev_getR (pc := 32) d_MO_stateOf_32 rfl rfl rfl fl_MO_34 (rf_MO_11 hR) ?_
      refine Ev_iload_n (pc := 35) d_MO_stateOf_35 rfl ?_
      refine Ev_iald (pc := 36) d_MO_stateOf_36 rfl rfl n1 n2 ?_
      refine Ev_ireturn (pc := 37) d_MO_stateOf_37 rfl rfl ?_
      rw [f_MO_stateOf, if_pos q1, if_pos q2] at k
      exact k
    · refine Ev_iconst (v := 0) (pc := 27) d_MO_stateOf_27 (by decide) ?_
      refine Ev_goto (tgt := 37) (pc := 28) d_MO_stateOf_28 rfl ?_
      refine Ev_ireturn (pc := 37) d_MO_stateOf_37 rfl rfl ?_
      rw [f_MO_stateOf, if_pos q1, if_neg q2] at k
      exact k
def f_MO_isExpired (h : ev_H) (x1 : Int32) : Int32 := (if (gI h 0 6 1) < (gI h 0 13 x1.toNatClampNeg) then 0 else 1)
theorem c_MO_isExpired {E : ev_E} {P : Option ev_V ⊕ Nat → ev_H → Prop} {h : ev_H} {x1 : Int32} (hR : rfs h) (n1 : ¬ x1 < 0) (n2 : x1.toNatClampNeg < 48) (k : P (.inl (some (vI (f_MO_isExpired h x1)))) h) : Ev E M_MO_isExpired 0 [(0, vR 0 6), (1, vI x1)] [] h P := by
  refine Ev_aload_n (pc := 0) d_MO_isExpired_0 rfl ?_
  refine Ev_getI (pc := 1) d_MO_isExpired_1 rfl rfl rfl fl_MO_89 ?_
  refine Ev_aload_n (pc := 4) d_MO_isExpired_4 rfl ?_
  refine Ev_getR (pc := 5) d_MO_isExpired_5 rfl rfl rfl fl_MO_28 (rf_MO_9 hR) ?_
  refine Ev_iload_n (pc := 8) d_MO_isExpired_8 rfl ?_
  refine Ev_iald (pc := 9) d_MO_isExpired_9 rfl rfl n1 n2 ?_
  refine Ev_icmp_lt (tgt := 17) (pc := 10) d_MO_isExpired_10 rfl (fun q1 => ?_) (fun q1 => ?_)
  · refine Ev_iconst (v := 0) (pc := 17) d_MO_isExpired_17 (by decide) ?_
    refine Ev_ireturn (pc := 18) d_MO_isExpired_18 rfl rfl ?_
    rw [f_MO_isExpired, if_pos q1] at k
    exact k
  · refine Ev_iconst (v := 1) (pc := 13) d_MO_isExpired_13 (by decide) ?_
    refine Ev_goto (tgt := 18) (pc := 14) d_MO_isExpired_14 rfl ?_
    refine Ev_ireturn (pc := 18) d_MO_isExpired_18 rfl rfl ?_
    rw [f_MO_isExpired, if_neg q1] at k
    exact k
theorem b_f_MO_isExpired {h : ev_H} {x1 : Int32} : f_MO_isExpired h x1 = 0 ∨ f_MO_isExpired h x1 = 1 := by
  unfold f_MO_isExpired
  first | exact Or.inl rfl | exact Or.inr rfl | (repeat' (split)) <;> (first | exact Or.inl rfl | exact Or.inr rfl)
def f_MO_isBarred (h : ev_H) (x1 : Int32) : Int32 := (if ((gI h 0 14 x1.toNatClampNeg) &&& (gI h 0 6 18)) = 0 then 0 else 1)
theorem c_MO_isBarred {E : ev_E} {P : Option ev_V ⊕ Nat → ev_H → Prop} {h : ev_H} {x1 : Int32} (hR : rfs h) (n1 : ¬ x1 < 0) (n2 : x1.toNatClampNeg < 48) (k : P (.inl (some (vI (f_MO_isBarred h x1)))) h) : Ev E M_MO_isBarred 0 [(0, vR 0 6), (1, vI x1)] [] h P := by
  refine Ev_aload_n (pc := 0) d_MO_isBarred_0 rfl ?_
  refine Ev_getR (pc := 1) d_MO_isBarred_1 rfl rfl rfl fl_MO_31 (rf_MO_10 hR) ?_
  refine Ev_iload_n (pc := 4) d_MO_isBarred_4 rfl ?_
  refine Ev_iald (pc := 5) d_MO_isBarred_5 rfl rfl n1 n2 ?_
  refine Ev_aload_n (pc := 6) d_MO_isBarred_6 rfl ?_
  refine Ev_getI (pc := 7) d_MO_isBarred_7 rfl rfl rfl fl_MO_92 ?_
  refine Ev_iand (pc := 10) d_MO_isBarred_10 ?_
  refine Ev_if_eq (tgt := 18) (pc := 11) d_MO_isBarred_11 rfl (fun q1 => ?_) (fun q1 => ?_)
  · refine Ev_iconst (v := 0) (pc := 18) d_MO_isBarred_18 (by decide) ?_
    refine Ev_ireturn (pc := 19) d_MO_isBarred_19 rfl rfl ?_
    rw [f_MO_isBarred, if_pos q1] at k
    exact k
  · refine Ev_iconst (v := 1) (pc := 14) d_MO_isBarred_14 (by decide) ?_
    refine Ev_goto (tgt := 19) (pc := 15) d_MO_isBarred_15 rfl ?_
    refine Ev_ireturn (pc := 19) d_MO_isBarred_19 rfl rfl ?_
    rw [f_MO_isBarred, if_neg q1] at k
    exact k
theorem b_f_MO_isBarred {h : ev_H} {x1 : Int32} : f_MO_isBarred h x1 = 0 ∨ f_MO_isBarred h x1 = 1 := by
  unfold f_MO_isBarred
  first | exact Or.inl rfl | exact Or.inr rfl | (repeat' (split)) <;> (first | exact Or.inl rfl | exact Or.inr rfl)
def f_MO_isReady (h : ev_H) (x1 : Int32) : Int32 := (if (f_MO_stateOf h x1) = 0 then (if (f_MO_isExpired h x1) = 0 then (if (f_MO_isBarred h x1) = 0 then 1 else 0) else 0) else 0)
theorem c_MO_isReady {E : ev_E} {P : Option ev_V ⊕ Nat → ev_H → Prop} {h : ev_H} {x1 : Int32} (hR : rfs h) (n1 : ¬ x1 < 0) (n2 : x1.toNatClampNeg < 48) (k : P (.inl (some (vI (f_MO_isReady h x1)))) h) : Ev E M_MO_isReady 0 [(0, vR 0 6), (1, vI x1)] [] h P := by
  refine Ev_aload_n (pc := 0) d_MO_isReady_0 rfl ?_
  refine Ev_iload_n (pc := 1) d_MO_isReady_1 rfl ?_
  refine Ev_callV (M' := M_MO_stateOf) (as := [vI x1]) (st := []) (a := 0) (i := 6) (pc := 2) d_MO_isReady_2 rfl rfl rfl rfl rfl rfl rfl v_MO_stateOf lk_MO_95 rfl rfl (c_MO_stateOf hR n1 n2 ?_)
  refine Ev_if_ne (tgt := 28) (pc := 5) d_MO_isReady_5 rfl (fun q1 => ?_) (fun q1 => ?_)
  · refine Ev_iconst (v := 0) (pc := 28) d_MO_isReady_28 (by decide) ?_
    refine Ev_ireturn (pc := 29) d_MO_isReady_29 rfl rfl ?_
    rw [f_MO_isReady, if_neg q1] at k
    exact k
  · refine Ev_aload_n (pc := 8) d_MO_isReady_8 rfl ?_
    refine Ev_iload_n (pc := 9) d_MO_isReady_9 rfl ?_
    refine Ev_callV (M' := M_MO_isExpired) (as := [vI x1]) (st := []) (a := 0) (i := 6) (pc := 10) d_MO_isReady_10 rfl rfl rfl rfl rfl rfl rfl v_MO_isExpired lk_MO_99 rfl rfl (c_MO_isExpired hR n1 n2 ?_)
    refine Ev_if_ne (tgt := 28) (pc := 13) d_MO_isReady_13 rfl (fun q2 => ?_) (fun q2 => ?_)
    · refine Ev_iconst (v := 0) (pc := 28) d_MO_isReady_28 (by decide) ?_
      refine Ev_ireturn (pc := 29) d_MO_isReady_29 rfl rfl ?_
      rw [f_MO_isReady, if_pos q1, if_neg q2] at k
      exact k
    · refine Ev_aload_n (pc := 16) d_MO_isReady_16 rfl ?_
      refine Ev_iload_n (pc := 17) d_MO_isReady_17 rfl ?_
      refine Ev_callV (M' := M_MO_isBarred) (as := [vI x1]) (st := []) (a := 0) (i := 6) (pc := 18) d_MO_isReady_18 rfl rfl rfl rfl rfl rfl rfl v_MO_isBarred lk_MO_103 rfl rfl (c_MO_isBarred hR n1 n2 ?_)
      refine Ev_if_ne (tgt := 28) (pc := 21) d_MO_isReady_21 rfl (fun q3 => ?_) (fun q3 => ?_)
      · refine Ev_iconst (v := 0) (pc := 28) d_MO_isReady_28 (by decide) ?_
        refine Ev_ireturn (pc := 29) d_MO_isReady_29 rfl rfl ?_
        rw [f_MO_isReady, if_pos q1, if_pos q2, if_neg q3] at k
        exact k
      · refine Ev_iconst (v := 1) (pc := 24) d_MO_isReady_24 (by decide) ?_
        refine Ev_goto (tgt := 29) (pc := 25) d_MO_isReady_25 rfl ?_
        refine Ev_ireturn (pc := 29) d_MO_isReady_29 rfl rfl ?_
        rw [f_MO_isReady, if_pos q1, if_pos q2, if_pos q3] at k
        exact k
theorem b_f_MO_isReady {h : ev_H} {x1 : Int32} : f_MO_isReady h x1 = 0 ∨ f_MO_isReady h x1 = 1 := by
  unfold f_MO_isReady
  first | exact Or.inl rfl | exact Or.inr rfl | (repeat' (split)) <;> (first | exact Or.inl rfl | exact Or.inr rfl | exact b_f_MO_isBarred | exact b_f_MO_isExpired)
def f_MO_suits (x0 : Int32) (x1 : Int32) : Int32 := (if x1 = 0 then (if x0 = 3 then 1 else 0) else (if x1 = 1 then (if x0 = 0 then 1 else 0) else (if x1 = 2 then (if x0 = 0 then 1 else (if x0 = 2 then 1 else 0)) else (if x0 = 1 then 1 else 0))))
theorem c_MO_suits {E : ev_E} {P : Option ev_V ⊕ Nat → ev_H → Prop} {h : ev_H} {x0 : Int32} {x1 : Int32} (k : P (.inl (some (vI (f_MO_suits x0 x1)))) h) : Ev E M_MO_suits 0 [(0, vI x0), (1, vI x1)] [] h P := by
  refine Ev_iload_n (pc := 0) d_MO_suits_0 rfl ?_
  refine Ev_if_ne (tgt := 17) (pc := 1) d_MO_suits_1 rfl (fun q1 => ?_) (fun q1 => ?_)
  · refine Ev_iload_n (pc := 17) d_MO_suits_17 rfl ?_
    refine Ev_iconst (v := 1) (pc := 18) d_MO_suits_18 (by decide) ?_
    refine Ev_icmp_ne (tgt := 34) (pc := 19) d_MO_suits_19 rfl (fun q2 => ?_) (fun q2 => ?_)
    · refine Ev_iload_n (pc := 34) d_MO_suits_34 rfl ?_
      refine Ev_iconst (v := 2) (pc := 35) d_MO_suits_35 (by decide) ?_
      refine Ev_icmp_ne (tgt := 56) (pc := 36) d_MO_suits_36 rfl (fun q3 => ?_) (fun q3 => ?_)
      · refine Ev_iload_n (pc := 56) d_MO_suits_56 rfl ?_
        refine Ev_iconst (v := 1) (pc := 57) d_MO_suits_57 (by decide) ?_
        refine Ev_icmp_ne (tgt := 65) (pc := 58) d_MO_suits_58 rfl (fun q4 => ?_) (fun q4 => ?_)
        · refine Ev_iconst (v := 0) (pc := 65) d_MO_suits_65 (by decide) ?_
          refine Ev_ireturn (pc := 66) d_MO_suits_66 rfl rfl ?_
          rw [f_MO_suits, if_neg q1, if_neg q2, if_neg q3, if_neg q4] at k
          exact k
        · refine Ev_iconst (v := 1) (pc := 61) d_MO_suits_61 (by decide) ?_
          refine Ev_goto (tgt := 66) (pc := 62) d_MO_suits_62 rfl ?_
          refine Ev_ireturn (pc := 66) d_MO_suits_66 rfl rfl ?_
          rw [f_MO_suits, if_neg q1, if_neg q2, if_neg q3, if_pos q4] at k
          exact k
      · refine Ev_iload_n (pc := 39) d_MO_suits_39 rfl ?_
        refine Ev_if_eq (tgt := 48) (pc := 40) d_MO_suits_40 rfl (fun q5 => ?_) (fun q5 => ?_)
        · refine Ev_iconst (v := 1) (pc := 48) d_MO_suits_48 (by decide) ?_
          refine Ev_goto (tgt := 66) (pc := 49) d_MO_suits_49 rfl ?_
          refine Ev_ireturn (pc := 66) d_MO_suits_66 rfl rfl ?_
          rw [f_MO_suits, if_neg q1, if_neg q2, if_pos q3, if_pos q5] at k
          exact k
        · refine Ev_iload_n (pc := 43) d_MO_suits_43 rfl ?_
          refine Ev_iconst (v := 2) (pc := 44) d_MO_suits_44 (by decide) ?_
          refine Ev_icmp_ne (tgt := 52) (pc := 45) d_MO_suits_45 rfl (fun q6 => ?_) (fun q6 => ?_)
          · refine Ev_iconst (v := 0) (pc := 52) d_MO_suits_52 (by decide) ?_
            refine Ev_goto (tgt := 66) (pc := 53) d_MO_suits_53 rfl ?_
            refine Ev_ireturn (pc := 66) d_MO_suits_66 rfl rfl ?_
            rw [f_MO_suits, if_neg q1, if_neg q2, if_pos q3, if_neg q5, if_neg q6] at k
            exact k
          · refine Ev_iconst (v := 1) (pc := 48) d_MO_suits_48 (by decide) ?_
            refine Ev_goto (tgt := 66) (pc := 49) d_MO_suits_49 rfl ?_
            refine Ev_ireturn (pc := 66) d_MO_suits_66 rfl rfl ?_
            rw [f_MO_suits, if_neg q1, if_neg q2, if_pos q3, if_neg q5, if_pos q6] at k
            exact k
    · refine Ev_iload_n (pc := 22) d_MO_suits_22 rfl ?_
      refine Ev_if_ne (tgt := 30) (pc := 23) d_MO_suits_23 rfl (fun q7 => ?_) (fun q7 => ?_)
      · refine Ev_iconst (v := 0) (pc := 30) d_MO_suits_30 (by decide) ?_
        refine Ev_goto (tgt := 66) (pc := 31) d_MO_suits_31 rfl ?_
        refine Ev_ireturn (pc := 66) d_MO_suits_66 rfl rfl ?_
        rw [f_MO_suits, if_neg q1, if_pos q2, if_neg q7] at k
        exact k
      · refine Ev_iconst (v := 1) (pc := 26) d_MO_suits_26 (by decide) ?_
        refine Ev_goto (tgt := 66) (pc := 27) d_MO_suits_27 rfl ?_
        refine Ev_ireturn (pc := 66) d_MO_suits_66 rfl rfl ?_
        rw [f_MO_suits, if_neg q1, if_pos q2, if_pos q7] at k
        exact k
  · refine Ev_iload_n (pc := 4) d_MO_suits_4 rfl ?_
    refine Ev_iconst (v := 3) (pc := 5) d_MO_suits_5 (by decide) ?_
    refine Ev_icmp_ne (tgt := 13) (pc := 6) d_MO_suits_6 rfl (fun q8 => ?_) (fun q8 => ?_)
    · refine Ev_iconst (v := 0) (pc := 13) d_MO_suits_13 (by decide) ?_
      refine Ev_goto (tgt := 66) (pc := 14) d_MO_suits_14 rfl ?_
      refine Ev_ireturn (pc := 66) d_MO_suits_66 rfl rfl ?_
      rw [f_MO_suits, if_pos q1, if_neg q8] at k
      exact k
    · refine Ev_iconst (v := 1) (pc := 9) d_MO_suits_9 (by decide) ?_
      refine Ev_goto (tgt := 66) (pc := 10) d_MO_suits_10 rfl ?_
      refine Ev_ireturn (pc := 66) d_MO_suits_66 rfl rfl ?_
      rw [f_MO_suits, if_pos q1, if_pos q8] at k
      exact k
theorem b_f_MO_suits {x0 : Int32} {x1 : Int32} : f_MO_suits x0 x1 = 0 ∨ f_MO_suits x0 x1 = 1 := by
  unfold f_MO_suits
  first | exact Or.inl rfl | exact Or.inr rfl | (repeat' (split)) <;> (first | exact Or.inl rfl | exact Or.inr rfl)
def m_MO_reasonFor_14 (h : ev_H) (x1 : Int32) (x2 : Int32) : Int32 := (if (gI h 0 7 x2.toNatClampNeg) = 0 then 1 else 0)
def m_MO_reasonFor_30 (h : ev_H) (x1 : Int32) (x2 : Int32) : Int32 := (if (gI h 0 23 x1.toNatClampNeg) = 1 then 1 else 0)
def m_MO_reasonFor_57 (h : ev_H) (x1 : Int32) (x2 : Int32) : Int32 := (if (m_MO_reasonFor_30 h x1 x2) = 0 then (if (m_MO_reasonFor_14 h x1 x2) = 0 then 3 else 0) else (gI h 0 21 x1.toNatClampNeg) / 2)
def m_MO_reasonFor_74 (h : ev_H) (x1 : Int32) (x2 : Int32) : Int32 := (if (m_MO_reasonFor_14 h x1 x2) = 0 then m_MO_reasonFor_57 h x1 x2 else gI h 0 8 x2.toNatClampNeg)
def m_MO_reasonFor_91 (h : ev_H) (x1 : Int32) (x2 : Int32) : Int32 := (if (m_MO_reasonFor_14 h x1 x2) = 0 then gI h 0 8 x2.toNatClampNeg else m_MO_reasonFor_57 h x1 x2)
def f_MO_reasonFor_91 (h : ev_H) (x1 : Int32) (x2 : Int32) : Int32 := (if (gI h 0 7 x2.toNatClampNeg) = 3 then 1 else (if ((m_MO_reasonFor_74 h x1 x2) &&& ((m_MO_reasonFor_91 h x1 x2) ^^^ (-1))) = 0 then (if (m_MO_reasonFor_14 h x1 x2) = 0 then (if ((gI h 0 25 x1.toNatClampNeg) &&& ((gI h 0 12 x2.toNatClampNeg) ^^^ (-1))) = 0 then 0 else 5) else (if (gI h 0 9 x2.toNatClampNeg) = 1 then (if (m_MO_reasonFor_30 h x1 x2) = 0 then 3 else (if ((gI h 0 21 x1.toNatClampNeg) - (gI h 0 21 x1.toNatClampNeg) / 2 * 2) = 1 then (if ((gI h 0 24 x1.toNatClampNeg) &&& ((gI h 0 11 x2.toNatClampNeg) ^^^ (-1))) = 0 then (if ((gI h 0 25 x1.toNatClampNeg) &&& ((gI h 0 12 x2.toNatClampNeg) ^^^ (-1))) = 0 then 0 else 5) else 4) else 3)) else (if ((gI h 0 24 x1.toNatClampNeg) &&& ((gI h 0 11 x2.toNatClampNeg) ^^^ (-1))) = 0 then (if ((gI h 0 25 x1.toNatClampNeg) &&& ((gI h 0 12 x2.toNatClampNeg) ^^^ (-1))) = 0 then 0 else 5) else 4))) else 2))
theorem c_MO_reasonFor_91 {E : ev_E} {P : Option ev_V ⊕ Nat → ev_H → Prop} {h : ev_H} {x1 : Int32} {x2 : Int32} (hR : rfs h) (n1 : ¬ x2 < 0) (n2 : x2.toNatClampNeg < 48) (n3 : ¬ x1 < 0) (n4 : x1.toNatClampNeg < 10) (k : P (.inl (some (vI (f_MO_reasonFor_91 h x1 x2)))) h) : Ev E M_MO_reasonFor 91 [(0, vR 0 6), (1, vI x1), (2, vI x2), (3, vI (m_MO_reasonFor_14 h x1 x2)), (4, vI (m_MO_reasonFor_30 h x1 x2)), (5, vI (m_MO_reasonFor_57 h x1 x2)), (6, vI (m_MO_reasonFor_74 h x1 x2))] [vI (m_MO_reasonFor_91 h x1 x2)] h P := by
  refine Ev_istore (pc := 91) d_MO_reasonFor_91 rfl ?_
  refine Ev_aload_n (pc := 93) d_MO_reasonFor_93 rfl ?_
  refine Ev_getR (pc := 94) d_MO_reasonFor_94 rfl rfl rfl fl_MO_7 (rf_MO_3 hR) ?_
  refine Ev_iload_n (pc := 97) d_MO_reasonFor_97 rfl ?_
  refine Ev_iald (pc := 98) d_MO_reasonFor_98 rfl rfl n1 n2 ?_
  refine Ev_iconst (v := 3) (pc := 99) d_MO_reasonFor_99 (by decide) ?_
  refine Ev_icmp_ne (tgt := 105) (pc := 100) d_MO_reasonFor_100 rfl (fun q7 => ?_) (fun q7 => ?_)
  · refine Ev_iload (pc := 105) d_MO_reasonFor_105 rfl ?_
    refine Ev_iload (pc := 107) d_MO_reasonFor_107 rfl ?_
    refine Ev_iconst (v := -1) (pc := 109) d_MO_reasonFor_109 (by decide) ?_
    refine Ev_ixor (pc := 110) d_MO_reasonFor_110 ?_
    refine Ev_iand (pc := 111) d_MO_reasonFor_111 ?_
    refine Ev_if_eq (tgt := 117) (pc := 112) d_MO_reasonFor_112 rfl (fun q8 => ?_) (fun q8 => ?_)
    · refine Ev_iload_n (pc := 117) d_MO_reasonFor_117 rfl ?_
      refine Ev_if_eq (tgt := 150) (pc := 118) d_MO_reasonFor_118 rfl (fun q9 => ?_) (fun q9 => ?_)
      · refine Ev_iload_n (pc := 150) d_MO_reasonFor_150 rfl ?_
        refine Ev_if_eq (tgt := 174) (pc := 151) d_MO_reasonFor_151 rfl (fun _ => ?_) (fun q => absurd q9 q)
        refine Ev_aload_n (pc := 174) d_MO_reasonFor_174 rfl ?_
        refine Ev_getR (pc := 175) d_MO_reasonFor_175 rfl rfl rfl fl_MO_64 (rf_MO_24 hR) ?_
        refine Ev_iload_n (pc := 178) d_MO_reasonFor_178 rfl ?_
        refine Ev_iald (pc := 179) d_MO_reasonFor_179 rfl rfl n3 n4 ?_
        refine Ev_aload_n (pc := 180) d_MO_reasonFor_180 rfl ?_
        refine Ev_getR (pc := 181) d_MO_reasonFor_181 rfl rfl rfl fl_MO_25 (rf_MO_8 hR) ?_
        refine Ev_iload_n (pc := 184) d_MO_reasonFor_184 rfl ?_
        refine Ev_iald (pc := 185) d_MO_reasonFor_185 rfl rfl n1 n2 ?_
        refine Ev_iconst (v := -1) (pc := 186) d_MO_reasonFor_186 (by decide) ?_
        refine Ev_ixor (pc := 187) d_MO_reasonFor_187 ?_
        refine Ev_iand (pc := 188) d_MO_reasonFor_188 ?_
        refine Ev_if_eq (tgt := 196) (pc := 189) d_MO_reasonFor_189 rfl (fun q10 => ?_) (fun q10 => ?_)
        · refine Ev_iconst (v := 0) (pc := 196) d_MO_reasonFor_196 (by decide) ?_
          refine Ev_ireturn (pc := 197) d_MO_reasonFor_197 rfl rfl ?_
          rw [f_MO_reasonFor_91, if_neg q7, if_pos q8, if_pos q9, if_pos q10] at k
          exact k
        · refine Ev_iconst (v := 5) (pc := 192) d_MO_reasonFor_192 (by decide) ?_
          refine Ev_goto (tgt := 197) (pc := 193) d_MO_reasonFor_193 rfl ?_
          refine Ev_ireturn (pc := 197) d_MO_reasonFor_197 rfl rfl ?_
          rw [f_MO_reasonFor_91, if_neg q7, if_pos q8, if_pos q9, if_neg q10] at k
          exact k
      · refine Ev_aload_n (pc := 121) d_MO_reasonFor_121 rfl ?_
        refine Ev_getR (pc := 122) d_MO_reasonFor_122 rfl rfl rfl fl_MO_16 (rf_MO_5 hR) ?_
        refine Ev_iload_n (pc := 125) d_MO_reasonFor_125 rfl ?_
        refine Ev_iald (pc := 126) d_MO_reasonFor_126 rfl rfl n1 n2 ?_
        refine Ev_iconst (v := 1) (pc := 127) d_MO_reasonFor_127 (by decide) ?_
        refine Ev_icmp_ne (tgt := 150) (pc := 128) d_MO_reasonFor_128 rfl (fun q11 => ?_) (fun q11 => ?_)
        · refine Ev_iload_n (pc := 150) d_MO_reasonFor_150 rfl ?_
          refine Ev_if_eq (tgt := 174) (pc := 151) d_MO_reasonFor_151 rfl (fun q => absurd q q9) (fun _ => ?_)
          refine Ev_aload_n (pc := 154) d_MO_reasonFor_154 rfl ?_
          refine Ev_getR (pc := 155) d_MO_reasonFor_155 rfl rfl rfl fl_MO_61 (rf_MO_23 hR) ?_
          refine Ev_iload_n (pc := 158) d_MO_reasonFor_158 rfl ?_
          refine Ev_iald (pc := 159) d_MO_reasonFor_159 rfl rfl n3 n4 ?_
          refine Ev_aload_n (pc := 160) d_MO_reasonFor_160 rfl ?_
          refine Ev_getR (pc := 161) d_MO_reasonFor_161 rfl rfl rfl fl_MO_22 (rf_MO_7 hR) ?_
          refine Ev_iload_n (pc := 164) d_MO_reasonFor_164 rfl ?_
          refine Ev_iald (pc := 165) d_MO_reasonFor_165 rfl rfl n1 n2 ?_
          refine Ev_iconst (v := -1) (pc := 166) d_MO_reasonFor_166 (by decide) ?_
          refine Ev_ixor (pc := 167) d_MO_reasonFor_167 ?_
          refine Ev_iand (pc := 168) d_MO_reasonFor_168 ?_
          refine Ev_if_eq (tgt := 174) (pc := 169) d_MO_reasonFor_169 rfl (fun q12 => ?_) (fun q12 => ?_)
          · refine Ev_aload_n (pc := 174) d_MO_reasonFor_174 rfl ?_
            refine Ev_getR (pc := 175) d_MO_reasonFor_175 rfl rfl rfl fl_MO_64 (rf_MO_24 hR) ?_
            refine Ev_iload_n (pc := 178) d_MO_reasonFor_178 rfl ?_
            refine Ev_iald (pc := 179) d_MO_reasonFor_179 rfl rfl n3 n4 ?_
            refine Ev_aload_n (pc := 180) d_MO_reasonFor_180 rfl ?_
            refine Ev_getR (pc := 181) d_MO_reasonFor_181 rfl rfl rfl fl_MO_25 (rf_MO_8 hR) ?_
            refine Ev_iload_n (pc := 184) d_MO_reasonFor_184 rfl ?_
            refine Ev_iald (pc := 185) d_MO_reasonFor_185 rfl rfl n1 n2 ?_
            refine Ev_iconst (v := -1) (pc := 186) d_MO_reasonFor_186 (by decide) ?_
            refine Ev_ixor (pc := 187) d_MO_reasonFor_187 ?_
            refine Ev_iand (pc := 188) d_MO_reasonFor_188 ?_
            refine Ev_if_eq (tgt := 196) (pc := 189) d_MO_reasonFor_189 rfl (fun q13 => ?_) (fun q13 => ?_)
            · refine Ev_iconst (v := 0) (pc := 196) d_MO_reasonFor_196 (by decide) ?_
              refine Ev_ireturn (pc := 197) d_MO_reasonFor_197 rfl rfl ?_
              rw [f_MO_reasonFor_91, if_neg q7, if_pos q8, if_neg q9, if_neg q11, if_pos q12, if_pos q13] at k
              exact k
            · refine Ev_iconst (v := 5) (pc := 192) d_MO_reasonFor_192 (by decide) ?_
              refine Ev_goto (tgt := 197) (pc := 193) d_MO_reasonFor_193 rfl ?_
              refine Ev_ireturn (pc := 197) d_MO_reasonFor_197 rfl rfl ?_
              rw [f_MO_reasonFor_91, if_neg q7, if_pos q8, if_neg q9, if_neg q11, if_pos q12, if_neg q13] at k
              exact k
          · refine Ev_iconst (v := 4) (pc := 172) d_MO_reasonFor_172 (by decide) ?_
            refine Ev_ireturn (pc := 173) d_MO_reasonFor_173 rfl rfl ?_
            rw [f_MO_reasonFor_91, if_neg q7, if_pos q8, if_neg q9, if_neg q11, if_neg q12] at k
            exact k
        · refine Ev_iload (pc := 131) d_MO_reasonFor_131 rfl ?_
          refine Ev_if_eq (tgt := 148) (pc := 133) d_MO_reasonFor_133 rfl (fun q14 => ?_) (fun q14 => ?_)
          · refine Ev_iconst (v := 3) (pc := 148) d_MO_reasonFor_148 (by decide) ?_
            refine Ev_ireturn (pc := 149) d_MO_reasonFor_149 rfl rfl ?_
            rw [f_MO_reasonFor_91, if_neg q7, if_pos q8, if_neg q9, if_pos q11, if_pos q14] at k
            exact k
          · refine Ev_aload_n (pc := 136) d_MO_reasonFor_136 rfl ?_
            refine Ev_getR (pc := 137) d_MO_reasonFor_137 rfl rfl rfl fl_MO_52 (rf_MO_20 hR) ?_
            refine Ev_iload_n (pc := 140) d_MO_reasonFor_140 rfl ?_
            refine Ev_iald (pc := 141) d_MO_reasonFor_141 rfl rfl n3 n4 ?_
            refine Ev_iconst (v := 2) (pc := 142) d_MO_reasonFor_142 (by decide) ?_
            refine Ev_irem (pc := 143) d_MO_reasonFor_143 (by decide) ?_
            refine Ev_iconst (v := 1) (pc := 144) d_MO_reasonFor_144 (by decide) ?_
            refine Ev_icmp_eq (tgt := 150) (pc := 145) d_MO_reasonFor_145 rfl (fun q15 => ?_) (fun q15 => ?_)
            · refine Ev_iload_n (pc := 150) d_MO_reasonFor_150 rfl ?_
              refine Ev_if_eq (tgt := 174) (pc := 151) d_MO_reasonFor_151 rfl (fun q => absurd q q9) (fun _ => ?_)
              refine Ev_aload_n (pc := 154) d_MO_reasonFor_154 rfl ?_
              refine Ev_getR (pc := 155) d_MO_reasonFor_155 rfl rfl rfl fl_MO_61 (rf_MO_23 hR) ?_
              refine Ev_iload_n (pc := 158) d_MO_reasonFor_158 rfl ?_
              refine Ev_iald (pc := 159) d_MO_reasonFor_159 rfl rfl n3 n4 ?_
              refine Ev_aload_n (pc := 160) d_MO_reasonFor_160 rfl ?_
              refine Ev_getR (pc := 161) d_MO_reasonFor_161 rfl rfl rfl fl_MO_22 (rf_MO_7 hR) ?_
              refine Ev_iload_n (pc := 164) d_MO_reasonFor_164 rfl ?_
              refine Ev_iald (pc := 165) d_MO_reasonFor_165 rfl rfl n1 n2 ?_
              refine Ev_iconst (v := -1) (pc := 166) d_MO_reasonFor_166 (by decide) ?_
              refine Ev_ixor (pc := 167) d_MO_reasonFor_167 ?_
              refine Ev_iand (pc := 168) d_MO_reasonFor_168 ?_
              refine Ev_if_eq (tgt := 174) (pc := 169) d_MO_reasonFor_169 rfl (fun q16 => ?_) (fun q16 => ?_)
              · refine Ev_aload_n (pc := 174) d_MO_reasonFor_174 rfl ?_
                refine Ev_getR (pc := 175) d_MO_reasonFor_175 rfl rfl rfl fl_MO_64 (rf_MO_24 hR) ?_
                refine Ev_iload_n (pc := 178) d_MO_reasonFor_178 rfl ?_
                refine Ev_iald (pc := 179) d_MO_reasonFor_179 rfl rfl n3 n4 ?_
                refine Ev_aload_n (pc := 180) d_MO_reasonFor_180 rfl ?_
                refine Ev_getR (pc := 181) d_MO_reasonFor_181 rfl rfl rfl fl_MO_25 (rf_MO_8 hR) ?_
                refine Ev_iload_n (pc := 184) d_MO_reasonFor_184 rfl ?_
                refine Ev_iald (pc := 185) d_MO_reasonFor_185 rfl rfl n1 n2 ?_
                refine Ev_iconst (v := -1) (pc := 186) d_MO_reasonFor_186 (by decide) ?_
                refine Ev_ixor (pc := 187) d_MO_reasonFor_187 ?_
                refine Ev_iand (pc := 188) d_MO_reasonFor_188 ?_
                refine Ev_if_eq (tgt := 196) (pc := 189) d_MO_reasonFor_189 rfl (fun q17 => ?_) (fun q17 => ?_)
                · refine Ev_iconst (v := 0) (pc := 196) d_MO_reasonFor_196 (by decide) ?_
                  refine Ev_ireturn (pc := 197) d_MO_reasonFor_197 rfl rfl ?_
                  rw [f_MO_reasonFor_91, if_neg q7, if_pos q8, if_neg q9, if_pos q11, if_neg q14, if_pos q15, if_pos q16, if_pos q17] at k
                  exact k
                · refine Ev_iconst (v := 5) (pc := 192) d_MO_reasonFor_192 (by decide) ?_
                  refine Ev_goto (tgt := 197) (pc := 193) d_MO_reasonFor_193 rfl ?_
                  refine Ev_ireturn (pc := 197) d_MO_reasonFor_197 rfl rfl ?_
                  rw [f_MO_reasonFor_91, if_neg q7, if_pos q8, if_neg q9, if_pos q11, if_neg q14, if_pos q15, if_pos q16, if_neg q17] at k
                  exact k
              · refine Ev_iconst (v := 4) (pc := 172) d_MO_reasonFor_172 (by decide) ?_
                refine Ev_ireturn (pc := 173) d_MO_reasonFor_173 rfl rfl ?_
                rw [f_MO_reasonFor_91, if_neg q7, if_pos q8, if_neg q9, if_pos q11, if_neg q14, if_pos q15, if_neg q16] at k
                exact k
            · refine Ev_iconst (v := 3) (pc := 148) d_MO_reasonFor_148 (by decide) ?_
              refine Ev_ireturn (pc := 149) d_MO_reasonFor_149 rfl rfl ?_
              rw [f_MO_reasonFor_91, if_neg q7, if_pos q8, if_neg q9, if_pos q11, if_neg q14, if_neg q15] at k
              exact k
    · refine Ev_iconst (v := 2) (pc := 115) d_MO_reasonFor_115 (by decide) ?_
      refine Ev_ireturn (pc := 116) d_MO_reasonFor_116 rfl rfl ?_
      rw [f_MO_reasonFor_91, if_neg q7, if_neg q8] at k
      exact k
  · refine Ev_iconst (v := 1) (pc := 103) d_MO_reasonFor_103 (by decide) ?_
    refine Ev_ireturn (pc := 104) d_MO_reasonFor_104 rfl rfl ?_
    rw [f_MO_reasonFor_91, if_pos q7] at k
    exact k
def f_MO_reasonFor_74 (h : ev_H) (x1 : Int32) (x2 : Int32) : Int32 := f_MO_reasonFor_91 h x1 x2
theorem c_MO_reasonFor_74 {E : ev_E} {P : Option ev_V ⊕ Nat → ev_H → Prop} {h : ev_H} {x1 : Int32} {x2 : Int32} (hR : rfs h) (n1 : ¬ x2 < 0) (n2 : x2.toNatClampNeg < 48) (n3 : ¬ x1 < 0) (n4 : x1.toNatClampNeg < 10) (k : P (.inl (some (vI (f_MO_reasonFor_74 h x1 x2)))) h) : Ev E M_MO_reasonFor 74 [(0, vR 0 6), (1, vI x1), (2, vI x2), (3, vI (m_MO_reasonFor_14 h x1 x2)), (4, vI (m_MO_reasonFor_30 h x1 x2)), (5, vI (m_MO_reasonFor_57 h x1 x2))] [vI (m_MO_reasonFor_74 h x1 x2)] h P := by
  refine Ev_istore (pc := 74) d_MO_reasonFor_74 rfl ?_
  refine Ev_iload_n (pc := 76) d_MO_reasonFor_76 rfl ?_
  refine Ev_if_eq (tgt := 85) (pc := 77) d_MO_reasonFor_77 rfl (fun q6 => ?_) (fun q6 => ?_)
  · refine Ev_aload_n (pc := 85) d_MO_reasonFor_85 rfl ?_
    refine Ev_getR (pc := 86) d_MO_reasonFor_86 rfl rfl rfl fl_MO_13 (rf_MO_4 hR) ?_
    refine Ev_iload_n (pc := 89) d_MO_reasonFor_89 rfl ?_
    refine Ev_iald (pc := 90) d_MO_reasonFor_90 rfl rfl n1 n2 ?_
    rw [f_MO_reasonFor_74] at k
    have j := c_MO_reasonFor_91 (E := E) (P := P) (h := h) (x1 := x1) (x2 := x2) hR n1 n2 n3 n4 k
    rw [m_MO_reasonFor_91, if_pos q6] at j
    exact j
  · refine Ev_iload (pc := 80) d_MO_reasonFor_80 rfl ?_
    refine Ev_goto (tgt := 91) (pc := 82) d_MO_reasonFor_82 rfl ?_
    rw [f_MO_reasonFor_74] at k
    have j := c_MO_reasonFor_91 (E := E) (P := P) (h := h) (x1 := x1) (x2 := x2) hR n1 n2 n3 n4 k
    rw [m_MO_reasonFor_91, if_neg q6] at j
    exact j
def f_MO_reasonFor_57 (h : ev_H) (x1 : Int32) (x2 : Int32) : Int32 := f_MO_reasonFor_74 h x1 x2
theorem c_MO_reasonFor_57 {E : ev_E} {P : Option ev_V ⊕ Nat → ev_H → Prop} {h : ev_H} {x1 : Int32} {x2 : Int32} (hR : rfs h) (n1 : ¬ x2 < 0) (n2 : x2.toNatClampNeg < 48) (n3 : ¬ x1 < 0) (n4 : x1.toNatClampNeg < 10) (k : P (.inl (some (vI (f_MO_reasonFor_57 h x1 x2)))) h) : Ev E M_MO_reasonFor 57 [(0, vR 0 6), (1, vI x1), (2, vI x2), (3, vI (m_MO_reasonFor_14 h x1 x2)), (4, vI (m_MO_reasonFor_30 h x1 x2))] [vI (m_MO_reasonFor_57 h x1 x2)] h P := by
  refine Ev_istore (pc := 57) d_MO_reasonFor_57 rfl ?_
  refine Ev_iload_n (pc := 59) d_MO_reasonFor_59 rfl ?_
  refine Ev_if_eq (tgt := 72) (pc := 60) d_MO_reasonFor_60 rfl (fun q5 => ?_) (fun q5 => ?_)
  · refine Ev_iload (pc := 72) d_MO_reasonFor_72 rfl ?_
    rw [f_MO_reasonFor_57] at k
    have j := c_MO_reasonFor_74 (E := E) (P := P) (h := h) (x1 := x1) (x2 := x2) hR n1 n2 n3 n4 k
    rw [m_MO_reasonFor_74, if_pos q5] at j
    exact j
  · refine Ev_aload_n (pc := 63) d_MO_reasonFor_63 rfl ?_
    refine Ev_getR (pc := 64) d_MO_reasonFor_64 rfl rfl rfl fl_MO_13 (rf_MO_4 hR) ?_
    refine Ev_iload_n (pc := 67) d_MO_reasonFor_67 rfl ?_
    refine Ev_iald (pc := 68) d_MO_reasonFor_68 rfl rfl n1 n2 ?_
    refine Ev_goto (tgt := 74) (pc := 69) d_MO_reasonFor_69 rfl ?_
    rw [f_MO_reasonFor_57] at k
    have j := c_MO_reasonFor_74 (E := E) (P := P) (h := h) (x1 := x1) (x2 := x2) hR n1 n2 n3 n4 k
    rw [m_MO_reasonFor_74, if_neg q5] at j
    exact j
def f_MO_reasonFor_30 (h : ev_H) (x1 : Int32) (x2 : Int32) : Int32 := f_MO_reasonFor_57 h x1 x2
theorem c_MO_reasonFor_30 {E : ev_E} {P : Option ev_V ⊕ Nat → ev_H → Prop} {h : ev_H} {x1 : Int32} {x2 : Int32} (hR : rfs h) (n1 : ¬ x2 < 0) (n2 : x2.toNatClampNeg < 48) (n3 : ¬ x1 < 0) (n4 : x1.toNatClampNeg < 10) (k : P (.inl (some (vI (f_MO_reasonFor_30 h x1 x2)))) h) : Ev E M_MO_reasonFor 30 [(0, vR 0 6), (1, vI x1), (2, vI x2), (3, vI (m_MO_reasonFor_14 h x1 x2))] [vI (m_MO_reasonFor_30 h x1 x2)] h P := by
  refine Ev_istore (pc := 30) d_MO_reasonFor_30 rfl ?_
  refine Ev_iload (pc := 32) d_MO_reasonFor_32 rfl ?_
  refine Ev_if_eq (tgt := 48) (pc := 34) d_MO_reasonFor_34 rfl (fun q3 => ?_) (fun q3 => ?_)
  · refine Ev_iload_n (pc := 48) d_MO_reasonFor_48 rfl ?_
    refine Ev_if_eq (tgt := 56) (pc := 49) d_MO_reasonFor_49 rfl (fun q18 => ?_) (fun q18 => ?_)
    · refine Ev_iconst (v := 3) (pc := 56) d_MO_reasonFor_56 (by decide) ?_
      rw [f_MO_reasonFor_30] at k
      have j := c_MO_reasonFor_57 (E := E) (P := P) (h := h) (x1 := x1) (x2 := x2) hR n1 n2 n3 n4 k
      rw [m_MO_reasonFor_57, if_pos q3, if_pos q18] at j
      exact j
    · refine Ev_iconst (v := 0) (pc := 52) d_MO_reasonFor_52 (by decide) ?_
      refine Ev_goto (tgt := 57) (pc := 53) d_MO_reasonFor_53 rfl ?_
      rw [f_MO_reasonFor_30] at k
      have j := c_MO_reasonFor_57 (E := E) (P := P) (h := h) (x1 := x1) (x2 := x2) hR n1 n2 n3 n4 k
      rw [m_MO_reasonFor_57, if_pos q3, if_neg q18] at j
      exact j
  · refine Ev_aload_n (pc := 37) d_MO_reasonFor_37 rfl ?_
    refine Ev_getR (pc := 38) d_MO_reasonFor_38 rfl rfl rfl fl_MO_52 (rf_MO_20 hR) ?_
    refine Ev_iload_n (pc := 41) d_MO_reasonFor_41 rfl ?_
    refine Ev_iald (pc := 42) d_MO_reasonFor_42 rfl rfl n3 n4 ?_
    refine Ev_iconst (v := 2) (pc := 43) d_MO_reasonFor_43 (by decide) ?_
    refine Ev_idiv (pc := 44) d_MO_reasonFor_44 (by decide) ?_
    refine Ev_goto (tgt := 57) (pc := 45) d_MO_reasonFor_45 rfl ?_
    rw [f_MO_reasonFor_30] at k
    have j := c_MO_reasonFor_57 (E := E) (P := P) (h := h) (x1 := x1) (x2 := x2) hR n1 n2 n3 n4 k
    rw [m_MO_reasonFor_57, if_neg q3] at j
    exact j
def f_MO_reasonFor_14 (h : ev_H) (x1 : Int32) (x2 : Int32) : Int32 := f_MO_reasonFor_30 h x1 x2
theorem c_MO_reasonFor_14 {E : ev_E} {P : Option ev_V ⊕ Nat → ev_H → Prop} {h : ev_H} {x1 : Int32} {x2 : Int32} (hR : rfs h) (n1 : ¬ x1 < 0) (n2 : x1.toNatClampNeg < 10) (n3 : ¬ x2 < 0) (n4 : x2.toNatClampNeg < 48) (k : P (.inl (some (vI (f_MO_reasonFor_14 h x1 x2)))) h) : Ev E M_MO_reasonFor 14 [(0, vR 0 6), (1, vI x1), (2, vI x2)] [vI (m_MO_reasonFor_14 h x1 x2)] h P := by
  refine Ev_istore_n (pc := 14) d_MO_reasonFor_14 rfl ?_
  refine Ev_aload_n (pc := 15) d_MO_reasonFor_15 rfl ?_
  refine Ev_getR (pc := 16) d_MO_reasonFor_16 rfl rfl rfl fl_MO_58 (rf_MO_22 hR) ?_
  refine Ev_iload_n (pc := 19) d_MO_reasonFor_19 rfl ?_
  refine Ev_iald (pc := 20) d_MO_reasonFor_20 rfl rfl n1 n2 ?_
  refine Ev_iconst (v := 1) (pc := 21) d_MO_reasonFor_21 (by decide) ?_
  refine Ev_icmp_ne (tgt := 29) (pc := 22) d_MO_reasonFor_22 rfl (fun q2 => ?_) (fun q2 => ?_)
  · refine Ev_iconst (v := 0) (pc := 29) d_MO_reasonFor_29 (by decide) ?_
    rw [f_MO_reasonFor_14] at k
    have j := c_MO_reasonFor_30 (E := E) (P := P) (h := h) (x1 := x1) (x2 := x2) hR n3 n4 n1 n2 k
    rw [m_MO_reasonFor_30, if_neg q2] at j
    exact j
  · refine Ev_iconst (v := 1) (pc := 25) d_MO_reasonFor_25 (by decide) ?_
    refine Ev_goto (tgt := 30) (pc := 26) d_MO_reasonFor_26 rfl ?_
    rw [f_MO_reasonFor_14] at k
    have j := c_MO_reasonFor_30 (E := E) (P := P) (h := h) (x1 := x1) (x2 := x2) hR n3 n4 n1 n2 k
    rw [m_MO_reasonFor_30, if_pos q2] at j
    exact j
def f_MO_reasonFor (h : ev_H) (x1 : Int32) (x2 : Int32) : Int32 := f_MO_reasonFor_14 h x1 x2
theorem c_MO_reasonFor {E : ev_E} {P : Option ev_V ⊕ Nat → ev_H → Prop} {h : ev_H} {x1 : Int32} {x2 : Int32} (hR : rfs h) (n1 : ¬ x2 < 0) (n2 : x2.toNatClampNeg < 48) (n3 : ¬ x1 < 0) (n4 : x1.toNatClampNeg < 10) (k : P (.inl (some (vI (f_MO_reasonFor h x1 x2)))) h) : Ev E M_MO_reasonFor 0 [(0, vR 0 6), (1, vI x1), (2, vI x2)] [] h P := by
  refine Ev_aload_n (pc := 0) d_MO_reasonFor_0 rfl ?_
  refine Ev_getR (pc := 1) d_MO_reasonFor_1 rfl rfl rfl fl_MO_7 (rf_MO_3 hR) ?_
  refine Ev_iload_n (pc := 4) d_MO_reasonFor_4 rfl ?_
  refine Ev_iald (pc := 5) d_MO_reasonFor_5 rfl rfl n1 n2 ?_
  refine Ev_if_ne (tgt := 13) (pc := 6) d_MO_reasonFor_6 rfl (fun q1 => ?_) (fun q1 => ?_)
  · refine Ev_iconst (v := 0) (pc := 13) d_MO_reasonFor_13 (by decide) ?_
    rw [f_MO_reasonFor] at k
    have j := c_MO_reasonFor_14 (E := E) (P := P) (h := h) (x1 := x1) (x2 := x2) hR n3 n4 n1 n2 k
    rw [m_MO_reasonFor_14, if_neg q1] at j
    exact j
  · refine Ev_iconst (v := 1) (pc := 9) d_MO_reasonFor_9 (by decide) ?_
    refine Ev_goto (tgt := 14) (pc := 10) d_MO_reasonFor_10 rfl ?_
    rw [f_MO_reasonFor] at k
    have j := c_MO_reasonFor_14 (E := E) (P := P) (h := h) (x1 := x1) (x2 := x2) hR n3 n4 n1 n2 k
    rw [m_MO_reasonFor_14, if_pos q1] at j
    exact j
def f_MO_isMatched (h : ev_H) (x1 : Int32) (x2 : Int32) : Int32 := (if (gI h 0 7 x2.toNatClampNeg) = 0 then (if (gI h 0 26 ((48 * x1) + x2).toNatClampNeg) < 0 then 0 else (if 4320 ≤ ((gI h 0 6 1) - (gI h 0 26 ((48 * x1) + x2).toNatClampNeg)) then 0 else 1)) else 1)
theorem c_MO_isMatched {E : ev_E} {P : Option ev_V ⊕ Nat → ev_H → Prop} {h : ev_H} {x1 : Int32} {x2 : Int32} (hR : rfs h) (n1 : ¬ ((48 * x1) + x2) < 0) (n2 : ((48 * x1) + x2).toNatClampNeg < 480) (n3 : ¬ x2 < 0) (n4 : x2.toNatClampNeg < 48) (k : P (.inl (some (vI (f_MO_isMatched h x1 x2)))) h) : Ev E M_MO_isMatched 0 [(0, vR 0 6), (1, vI x1), (2, vI x2)] [] h P := by
  refine Ev_aload_n (pc := 0) d_MO_isMatched_0 rfl ?_
  refine Ev_getR (pc := 1) d_MO_isMatched_1 rfl rfl rfl fl_MO_67 (rf_MO_25 hR) ?_
  refine Ev_bipush (v := 48) (pc := 4) d_MO_isMatched_4 (by decide) ?_
  refine Ev_iload_n (pc := 6) d_MO_isMatched_6 rfl ?_
  refine Ev_imul (pc := 7) d_MO_isMatched_7 ?_
  refine Ev_iload_n (pc := 8) d_MO_isMatched_8 rfl ?_
  refine Ev_iadd (pc := 9) d_MO_isMatched_9 ?_
  refine Ev_iald (pc := 10) d_MO_isMatched_10 rfl rfl n1 n2 ?_
  refine Ev_istore_n (pc := 11) d_MO_isMatched_11 rfl ?_
  refine Ev_aload_n (pc := 12) d_MO_isMatched_12 rfl ?_
  refine Ev_getR (pc := 13) d_MO_isMatched_13 rfl rfl rfl fl_MO_7 (rf_MO_3 hR) ?_
  refine Ev_iload_n (pc := 16) d_MO_isMatched_16 rfl ?_
  refine Ev_iald (pc := 17) d_MO_isMatched_17 rfl rfl n3 n4 ?_
  refine Ev_if_ne (tgt := 37) (pc := 18) d_MO_isMatched_18 rfl (fun q1 => ?_) (fun q1 => ?_)
  · refine Ev_iconst (v := 1) (pc := 37) d_MO_isMatched_37 (by decide) ?_
    refine Ev_goto (tgt := 42) (pc := 38) d_MO_isMatched_38 rfl ?_
    refine Ev_ireturn (pc := 42) d_MO_isMatched_42 rfl rfl ?_
    rw [f_MO_isMatched, if_neg q1] at k
    exact k
  · refine Ev_iload_n (pc := 21) d_MO_isMatched_21 rfl ?_
    refine Ev_if_lt (tgt := 41) (pc := 22) d_MO_isMatched_22 rfl (fun q2 => ?_) (fun q2 => ?_)
    · refine Ev_iconst (v := 0) (pc := 41) d_MO_isMatched_41 (by decide) ?_
      refine Ev_ireturn (pc := 42) d_MO_isMatched_42 rfl rfl ?_
      rw [f_MO_isMatched, if_pos q1, if_pos q2] at k
      exact k
    · refine Ev_aload_n (pc := 25) d_MO_isMatched_25 rfl ?_
      refine Ev_getI (pc := 26) d_MO_isMatched_26 rfl rfl rfl fl_MO_89 ?_
      refine Ev_iload_n (pc := 29) d_MO_isMatched_29 rfl ?_
      refine Ev_isub (pc := 30) d_MO_isMatched_30 ?_
      refine Ev_sipush (v := 4320) (pc := 31) d_MO_isMatched_31 (by decide) ?_
      refine Ev_icmp_ge (tgt := 41) (pc := 34) d_MO_isMatched_34 rfl (fun q3 => ?_) (fun q3 => ?_)
      · refine Ev_iconst (v := 0) (pc := 41) d_MO_isMatched_41 (by decide) ?_
        refine Ev_ireturn (pc := 42) d_MO_isMatched_42 rfl rfl ?_
        rw [f_MO_isMatched, if_pos q1, if_neg q2, if_pos q3] at k
        exact k
      · refine Ev_iconst (v := 1) (pc := 37) d_MO_isMatched_37 (by decide) ?_
        refine Ev_goto (tgt := 42) (pc := 38) d_MO_isMatched_38 rfl ?_
        refine Ev_ireturn (pc := 42) d_MO_isMatched_42 rfl rfl ?_
        rw [f_MO_isMatched, if_pos q1, if_neg q2, if_neg q3] at k
        exact k
theorem b_f_MO_isMatched {h : ev_H} {x1 : Int32} {x2 : Int32} : f_MO_isMatched h x1 x2 = 0 ∨ f_MO_isMatched h x1 x2 = 1 := by
  unfold f_MO_isMatched
  first | exact Or.inl rfl | exact Or.inr rfl | (repeat' (split)) <;> (first | exact Or.inl rfl | exact Or.inr rfl)
def m_MO_mayGo_30 (h : ev_H) (x1 : Int32) (x2 : Int32) : Int32 := (if (f_MO_stateOf h x2) = 0 then 1 else (if (f_MO_stateOf h x2) = 1 then (if (gI h 0 16 x2.toNatClampNeg) = x1 then 1 else 0) else 0))
def f_MO_mayGo_30 (h : ev_H) (x1 : Int32) (x2 : Int32) : Int32 := (if (m_MO_mayGo_30 h x1 x2) = 0 then 0 else (if (f_MO_isExpired h x2) = 0 then (if (f_MO_isBarred h x2) = 0 then (if (gI h 0 23 x1.toNatClampNeg) = 2 then 0 else 1) else 0) else 0))
theorem c_MO_mayGo_30 {E : ev_E} {P : Option ev_V ⊕ Nat → ev_H → Prop} {h : ev_H} {x1 : Int32} {x2 : Int32} (hR : rfs h) (n1 : ¬ x2 < 0) (n2 : x2.toNatClampNeg < 48) (n3 : ¬ x1 < 0) (n4 : x1.toNatClampNeg < 10) (k : P (.inl (some (vI (f_MO_mayGo_30 h x1 x2)))) h) : Ev E M_MO_mayGo 30 [(0, vR 0 6), (1, vI x1), (2, vI x2), (3, vI (f_MO_stateOf h x2))] [vI (m_MO_mayGo_30 h x1 x2)] h P := by
  refine Ev_istore (pc := 30) d_MO_mayGo_30 rfl ?_
  refine Ev_iload (pc := 32) d_MO_mayGo_32 rfl ?_
  refine Ev_if_eq (tgt := 67) (pc := 34) d_MO_mayGo_34 rfl (fun q4 => ?_) (fun q4 => ?_)
  · refine Ev_iconst (v := 0) (pc := 67) d_MO_mayGo_67 (by decide) ?_
    refine Ev_ireturn (pc := 68) d_MO_mayGo_68 rfl rfl ?_
    rw [f_MO_mayGo_30, if_pos q4] at k
    exact k
  · refine Ev_aload_n (pc := 37) d_MO_mayGo_37 rfl ?_
    refine Ev_iload_n (pc := 38) d_MO_mayGo_38 rfl ?_
    refine Ev_callV (M' := M_MO_isExpired) (as := [vI x2]) (st := []) (a := 0) (i := 6) (pc := 39) d_MO_mayGo_39 rfl rfl rfl rfl rfl rfl rfl v_MO_isExpired lk_MO_99 rfl rfl (c_MO_isExpired hR n1 n2 ?_)
    refine Ev_if_ne (tgt := 67) (pc := 42) d_MO_mayGo_42 rfl (fun q5 => ?_) (fun q5 => ?_)
    · refine Ev_iconst (v := 0) (pc := 67) d_MO_mayGo_67 (by decide) ?_
      refine Ev_ireturn (pc := 68) d_MO_mayGo_68 rfl rfl ?_
      rw [f_MO_mayGo_30, if_neg q4, if_neg q5] at k
      exact k
    · refine Ev_aload_n (pc := 45) d_MO_mayGo_45 rfl ?_
      refine Ev_iload_n (pc := 46) d_MO_mayGo_46 rfl ?_
      refine Ev_callV (M' := M_MO_isBarred) (as := [vI x2]) (st := []) (a := 0) (i := 6) (pc := 47) d_MO_mayGo_47 rfl rfl rfl rfl rfl rfl rfl v_MO_isBarred lk_MO_103 rfl rfl (c_MO_isBarred hR n1 n2 ?_)
      refine Ev_if_ne (tgt := 67) (pc := 50) d_MO_mayGo_50 rfl (fun q6 => ?_) (fun q6 => ?_)
      · refine Ev_iconst (v := 0) (pc := 67) d_MO_mayGo_67 (by decide) ?_
        refine Ev_ireturn (pc := 68) d_MO_mayGo_68 rfl rfl ?_
        rw [f_MO_mayGo_30, if_neg q4, if_pos q5, if_neg q6] at k
        exact k
      · refine Ev_aload_n (pc := 53) d_MO_mayGo_53 rfl ?_
        refine Ev_getR (pc := 54) d_MO_mayGo_54 rfl rfl rfl fl_MO_58 (rf_MO_22 hR) ?_
        refine Ev_iload_n (pc := 57) d_MO_mayGo_57 rfl ?_
        refine Ev_iald (pc := 58) d_MO_mayGo_58 rfl rfl n3 n4 ?_
        refine Ev_iconst (v := 2) (pc := 59) d_MO_mayGo_59 (by decide) ?_
        refine Ev_icmp_eq (tgt := 67) (pc := 60) d_MO_mayGo_60 rfl (fun q7 => ?_) (fun q7 => ?_)
        · refine Ev_iconst (v := 0) (pc := 67) d_MO_mayGo_67 (by decide) ?_
          refine Ev_ireturn (pc := 68) d_MO_mayGo_68 rfl rfl ?_
          rw [f_MO_mayGo_30, if_neg q4, if_pos q5, if_pos q6, if_pos q7] at k
          exact k
        · refine Ev_iconst (v := 1) (pc := 63) d_MO_mayGo_63 (by decide) ?_
          refine Ev_goto (tgt := 68) (pc := 64) d_MO_mayGo_64 rfl ?_
          refine Ev_ireturn (pc := 68) d_MO_mayGo_68 rfl rfl ?_
          rw [f_MO_mayGo_30, if_neg q4, if_pos q5, if_pos q6, if_neg q7] at k
          exact k
def f_MO_mayGo (h : ev_H) (x1 : Int32) (x2 : Int32) : Int32 := f_MO_mayGo_30 h x1 x2
theorem c_MO_mayGo {E : ev_E} {P : Option ev_V ⊕ Nat → ev_H → Prop} {h : ev_H} {x1 : Int32} {x2 : Int32} (hR : rfs h) (n1 : ¬ x2 < 0) (n2 : x2.toNatClampNeg < 48) (n3 : ¬ x1 < 0) (n4 : x1.toNatClampNeg < 10) (k : P (.inl (some (vI (f_MO_mayGo h x1 x2)))) h) : Ev E M_MO_mayGo 0 [(0, vR 0 6), (1, vI x1), (2, vI x2)] [] h P := by
  refine Ev_aload_n (pc := 0) d_MO_mayGo_0 rfl ?_
  refine Ev_iload_n (pc := 1) d_MO_mayGo_1 rfl ?_
  refine Ev_callV (M' := M_MO_stateOf) (as := [vI x2]) (st := []) (a := 0) (i := 6) (pc := 2) d_MO_mayGo_2 rfl rfl rfl rfl rfl rfl rfl v_MO_stateOf lk_MO_95 rfl rfl (c_MO_stateOf hR n1 n2 ?_)
  refine Ev_istore_n (pc := 5) d_MO_mayGo_5 rfl ?_
  refine Ev_iload_n (pc := 6) d_MO_mayGo_6 rfl ?_
  refine Ev_if_eq (tgt := 25) (pc := 7) d_MO_mayGo_7 rfl (fun q1 => ?_) (fun q1 => ?_)
  · refine Ev_iconst (v := 1) (pc := 25) d_MO_mayGo_25 (by decide) ?_
    refine Ev_goto (tgt := 30) (pc := 26) d_MO_mayGo_26 rfl ?_
    rw [f_MO_mayGo] at k
    have j := c_MO_mayGo_30 (E := E) (P := P) (h := h) (x1 := x1) (x2 := x2) hR n1 n2 n3 n4 k
    rw [m_MO_mayGo_30, if_pos q1] at j
    exact j
  · refine Ev_iload_n (pc := 10) d_MO_mayGo_10 rfl ?_
    refine Ev_iconst (v := 1) (pc := 11) d_MO_mayGo_11 (by decide) ?_
    refine Ev_icmp_ne (tgt := 29) (pc := 12) d_MO_mayGo_12 rfl (fun q8 => ?_) (fun q8 => ?_)
    · refine Ev_iconst (v := 0) (pc := 29) d_MO_mayGo_29 (by decide) ?_
      rw [f_MO_mayGo] at k
      have j := c_MO_mayGo_30 (E := E) (P := P) (h := h) (x1 := x1) (x2 := x2) hR n1 n2 n3 n4 k
      rw [m_MO_mayGo_30, if_neg q1, if_neg q8] at j
      exact j
    · refine Ev_aload_n (pc := 15) d_MO_mayGo_15 rfl ?_
      refine Ev_getR (pc := 16) d_MO_mayGo_16 rfl rfl rfl fl_MO_37 (rf_MO_12 hR) ?_
      refine Ev_iload_n (pc := 19) d_MO_mayGo_19 rfl ?_
      refine Ev_iald (pc := 20) d_MO_mayGo_20 rfl rfl n1 n2 ?_
      refine Ev_iload_n (pc := 21) d_MO_mayGo_21 rfl ?_
      refine Ev_icmp_ne (tgt := 29) (pc := 22) d_MO_mayGo_22 rfl (fun q9 => ?_) (fun q9 => ?_)
      · refine Ev_iconst (v := 0) (pc := 29) d_MO_mayGo_29 (by decide) ?_
        rw [f_MO_mayGo] at k
        have j := c_MO_mayGo_30 (E := E) (P := P) (h := h) (x1 := x1) (x2 := x2) hR n1 n2 n3 n4 k
        rw [m_MO_mayGo_30, if_neg q1, if_pos q8, if_neg q9] at j
        exact j
      · refine Ev_iconst (v := 1) (pc := 25) d_MO_mayGo_25 (by decide) ?_
        refine Ev_goto (tgt := 30) (pc := 26) d_MO_mayGo_26 rfl ?_
        rw [f_MO_mayGo] at k
        have j := c_MO_mayGo_30 (E := E) (P := P) (h := h) (x1 := x1) (x2 := x2) hR n1 n2 n3 n4 k
        rw [m_MO_mayGo_30, if_neg q1, if_pos q8, if_pos q9] at j
        exact j
theorem b_f_MO_mayGo {h : ev_H} {x1 : Int32} {x2 : Int32} : f_MO_mayGo h x1 x2 = 0 ∨ f_MO_mayGo h x1 x2 = 1 := by
  unfold f_MO_mayGo
  unfold f_MO_mayGo_30
  first | exact Or.inl rfl | exact Or.inr rfl | (repeat' (split)) <;> (first | exact Or.inl rfl | exact Or.inr rfl | exact b_f_MO_isBarred | exact b_f_MO_isExpired)
def f_MO_field (h : ev_H) (x1 : Int32) (x2 : Int32) : Int32 := (if x2 = 0 then (f_MO_stateOf h x1) else (if x2 = 1 then (gI h 0 7 x1.toNatClampNeg) else (if x2 = 2 then (gI h 0 8 x1.toNatClampNeg) else (if x2 = 3 then (gI h 0 9 x1.toNatClampNeg) else (if x2 = 4 then (gI h 0 12 x1.toNatClampNeg) else (if x2 = 5 then (gI h 0 13 x1.toNatClampNeg) else (if x2 = 6 then (if 0 < (gI h 0 18 x1.toNatClampNeg) then (gI h 0 16 x1.toNatClampNeg) else (if (f_MO_stateOf h x1) = 1 then (gI h 0 16 x1.toNatClampNeg) else (-1))) else (if x2 = 7 then (if (f_MO_isBarred h x1) = 0 then 0 else 1) else (if x2 = 8 then (gI h 0 19 x1.toNatClampNeg) else (gI h 0 20 x1.toNatClampNeg))))))))))
theorem c_MO_field {E : ev_E} {P : Option ev_V ⊕ Nat → ev_H → Prop} {h : ev_H} {x1 : Int32} {x2 : Int32} (hR : rfs h) (n1 : ¬ x1 < 0) (n2 : x1.toNatClampNeg < 48) (k : P (.inl (some (vI (f_MO_field h x1 x2)))) h) : Ev E M_MO_field 0 [(0, vR 0 6), (1, vI x1), (2, vI x2)] [] h P := by
  refine Ev_iload_n (pc := 0) d_MO_field_0 rfl ?_
  by_cases q1 : x2 = 0
  · refine Ev_tblIn (pc := 1) (tgt := 52) (off := 51) d_MO_field_1 (by rw [q1]; decide) (by rw [q1]; decide) (by rw [q1]; rfl) rfl ?_
    refine Ev_aload_n (pc := 52) d_MO_field_52 rfl ?_
    refine Ev_iload_n (pc := 53) d_MO_field_53 rfl ?_
    refine Ev_callV (M' := M_MO_stateOf) (as := [vI x1]) (st := []) (a := 0) (i := 6) (pc := 54) d_MO_field_54 rfl rfl rfl rfl rfl rfl rfl v_MO_stateOf lk_MO_95 rfl rfl (c_MO_stateOf hR n1 n2 ?_)
    refine Ev_ireturn (pc := 57) d_MO_field_57 rfl rfl ?_
    rw [f_MO_field, if_pos q1] at k
    exact k
  by_cases q2 : x2 = 1
  · refine Ev_tblIn (pc := 1) (tgt := 58) (off := 57) d_MO_field_1 (by rw [q2]; decide) (by rw [q2]; decide) (by rw [q2]; rfl) rfl ?_
    refine Ev_aload_n (pc := 58) d_MO_field_58 rfl ?_
    refine Ev_getR (pc := 59) d_MO_field_59 rfl rfl rfl fl_MO_7 (rf_MO_3 hR) ?_
    refine Ev_iload_n (pc := 62) d_MO_field_62 rfl ?_
    refine Ev_iald (pc := 63) d_MO_field_63 rfl rfl n1 n2 ?_
    refine Ev_ireturn (pc := 64) d_MO_field_64 rfl rfl ?_
    rw [f_MO_field, if_neg q1, if_pos q2] at k
    exact k
  by_cases q3 : x2 = 2
  · refine Ev_tblIn (pc := 1) (tgt := 65) (off := 64) d_MO_field_1 (by rw [q3]; decide) (by rw [q3]; decide) (by rw [q3]; rfl) rfl ?_
    refine Ev_aload_n (pc := 65) d_MO_field_65 rfl ?_
    refine Ev_getR (pc := 66) d_MO_field_66 rfl rfl rfl fl_MO_13 (rf_MO_4 hR) ?_
    refine Ev_iload_n (pc := 69) d_MO_field_69 rfl ?_
    refine Ev_iald (pc := 70) d_MO_field_70 rfl rfl n1 n2 ?_
    refine Ev_ireturn (pc := 71) d_MO_field_71 rfl rfl ?_
    rw [f_MO_field, if_neg q1, if_neg q2, if_pos q3] at k
    exact k
  by_cases q4 : x2 = 3
  · refine Ev_tblIn (pc := 1) (tgt := 72) (off := 71) d_MO_field_1 (by rw [q4]; decide) (by rw [q4]; decide) (by rw [q4]; rfl) rfl ?_
    refine Ev_aload_n (pc := 72) d_MO_field_72 rfl ?_
    refine Ev_getR (pc := 73) d_MO_field_73 rfl rfl rfl fl_MO_16 (rf_MO_5 hR) ?_
    refine Ev_iload_n (pc := 76) d_MO_field_76 rfl ?_
    refine Ev_iald (pc := 77) d_MO_field_77 rfl rfl n1 n2 ?_
    refine Ev_ireturn (pc := 78) d_MO_field_78 rfl rfl ?_
    rw [f_MO_field, if_neg q1, if_neg q2, if_neg q3, if_pos q4] at k
    exact k
  by_cases q5 : x2 = 4
  · refine Ev_tblIn (pc := 1) (tgt := 79) (off := 78) d_MO_field_1 (by rw [q5]; decide) (by rw [q5]; decide) (by rw [q5]; rfl) rfl ?_
    refine Ev_aload_n (pc := 79) d_MO_field_79 rfl ?_
    refine Ev_getR (pc := 80) d_MO_field_80 rfl rfl rfl fl_MO_25 (rf_MO_8 hR) ?_
    refine Ev_iload_n (pc := 83) d_MO_field_83 rfl ?_
    refine Ev_iald (pc := 84) d_MO_field_84 rfl rfl n1 n2 ?_
    refine Ev_ireturn (pc := 85) d_MO_field_85 rfl rfl ?_
    rw [f_MO_field, if_neg q1, if_neg q2, if_neg q3, if_neg q4, if_pos q5] at k
    exact k
  by_cases q6 : x2 = 5
  · refine Ev_tblIn (pc := 1) (tgt := 86) (off := 85) d_MO_field_1 (by rw [q6]; decide) (by rw [q6]; decide) (by rw [q6]; rfl) rfl ?_
    refine Ev_aload_n (pc := 86) d_MO_field_86 rfl ?_
    refine Ev_getR (pc := 87) d_MO_field_87 rfl rfl rfl fl_MO_28 (rf_MO_9 hR) ?_
    refine Ev_iload_n (pc := 90) d_MO_field_90 rfl ?_
    refine Ev_iald (pc := 91) d_MO_field_91 rfl rfl n1 n2 ?_
    refine Ev_ireturn (pc := 92) d_MO_field_92 rfl rfl ?_
    rw [f_MO_field, if_neg q1, if_neg q2, if_neg q3, if_neg q4, if_neg q5, if_pos q6] at k
    exact k
  by_cases q7 : x2 = 6
  · refine Ev_tblIn (pc := 1) (tgt := 93) (off := 92) d_MO_field_1 (by rw [q7]; decide) (by rw [q7]; decide) (by rw [q7]; rfl) rfl ?_
    refine Ev_aload_n (pc := 93) d_MO_field_93 rfl ?_
    refine Ev_getR (pc := 94) d_MO_field_94 rfl rfl rfl fl_MO_43 (rf_MO_14 hR) ?_
    refine Ev_iload_n (pc := 97) d_MO_field_97 rfl ?_
    refine Ev_iald (pc := 98) d_MO_field_98 rfl rfl n1 n2 ?_
    refine Ev_if_gt (tgt := 111) (pc := 99) d_MO_field_99 rfl (fun q8 => ?_) (fun q8 => ?_)
    · refine Ev_aload_n (pc := 111) d_MO_field_111 rfl ?_
      refine Ev_getR (pc := 112) d_MO_field_112 rfl rfl rfl fl_MO_37 (rf_MO_12 hR) ?_
      refine Ev_iload_n (pc := 115) d_MO_field_115 rfl ?_
      refine Ev_iald (pc := 116) d_MO_field_116 rfl rfl n1 n2 ?_
      refine Ev_goto (tgt := 121) (pc := 117) d_MO_field_117 rfl ?_
      refine Ev_ireturn (pc := 121) d_MO_field_121 rfl rfl ?_
      rw [f_MO_field, if_neg q1, if_neg q2, if_neg q3, if_neg q4, if_neg q5, if_neg q6, if_pos q7, if_pos q8] at k
      exact k
    · refine Ev_aload_n (pc := 102) d_MO_field_102 rfl ?_
      refine Ev_iload_n (pc := 103) d_MO_field_103 rfl ?_
      refine Ev_callV (M' := M_MO_stateOf) (as := [vI x1]) (st := []) (a := 0) (i := 6) (pc := 104) d_MO_field_104 rfl rfl rfl rfl rfl rfl rfl v_MO_stateOf lk_MO_95 rfl rfl (c_MO_stateOf hR n1 n2 ?_)
      refine Ev_iconst (v := 1) (pc := 107) d_MO_field_107 (by decide) ?_
      refine Ev_icmp_ne (tgt := 120) (pc := 108) d_MO_field_108 rfl (fun q9 => ?_) (fun q9 => ?_)
      · refine Ev_iconst (v := -1) (pc := 120) d_MO_field_120 (by decide) ?_
        refine Ev_ireturn (pc := 121) d_MO_field_121 rfl rfl ?_
        rw [f_MO_field, if_neg q1, if_neg q2, if_neg q3, if_neg q4, if_neg q5, if_neg q6, if_pos q7, if_neg q8, if_neg q9] at k
        exact k
      · refine Ev_aload_n (pc := 111) d_MO_field_111 rfl ?_
        refine Ev_getR (pc := 112) d_MO_field_112 rfl rfl rfl fl_MO_37 (rf_MO_12 hR) ?_
        refine Ev_iload_n (pc := 115) d_MO_field_115 rfl ?_
        refine Ev_iald (pc := 116) d_MO_field_116 rfl rfl n1 n2 ?_
        refine Ev_goto (tgt := 121) (pc := 117) d_MO_field_117 rfl ?_
        refine Ev_ireturn (pc := 121) d_MO_field_121 rfl rfl ?_
        rw [f_MO_field, if_neg q1, if_neg q2, if_neg q3, if_neg q4, if_neg q5, if_neg q6, if_pos q7, if_neg q8, if_pos q9] at k
        exact k
  by_cases q10 : x2 = 7
  · refine Ev_tblIn (pc := 1) (tgt := 122) (off := 121) d_MO_field_1 (by rw [q10]; decide) (by rw [q10]; decide) (by rw [q10]; rfl) rfl ?_
    refine Ev_aload_n (pc := 122) d_MO_field_122 rfl ?_
    refine Ev_iload_n (pc := 123) d_MO_field_123 rfl ?_
    refine Ev_callV (M' := M_MO_isBarred) (as := [vI x1]) (st := []) (a := 0) (i := 6) (pc := 124) d_MO_field_124 rfl rfl rfl rfl rfl rfl rfl v_MO_isBarred lk_MO_103 rfl rfl (c_MO_isBarred hR n1 n2 ?_)
    refine Ev_if_eq (tgt := 134) (pc := 127) d_MO_field_127 rfl (fun q11 => ?_) (fun q11 => ?_)
    · refine Ev_iconst (v := 0) (pc := 134) d_MO_field_134 (by decide) ?_
      refine Ev_ireturn (pc := 135) d_MO_field_135 rfl rfl ?_
      rw [f_MO_field, if_neg q1, if_neg q2, if_neg q3, if_neg q4, if_neg q5, if_neg q6, if_neg q7, if_pos q10, if_pos q11] at k
      exact k
    · refine Ev_iconst (v := 1) (pc := 130) d_MO_field_130 (by decide) ?_
      refine Ev_goto (tgt := 135) (pc := 131) d_MO_field_131 rfl ?_
      refine Ev_ireturn (pc := 135) d_MO_field_135 rfl rfl ?_
      rw [f_MO_field, if_neg q1, if_neg q2, if_neg q3, if_neg q4, if_neg q5, if_neg q6, if_neg q7, if_pos q10, if_neg q11] at k
      exact k
  by_cases q12 : x2 = 8
  · refine Ev_tblIn (pc := 1) (tgt := 136) (off := 135) d_MO_field_1 (by rw [q12]; decide) (by rw [q12]; decide) (by rw [q12]; rfl) rfl ?_
    refine Ev_aload_n (pc := 136) d_MO_field_136 rfl ?_
    refine Ev_getR (pc := 137) d_MO_field_137 rfl rfl rfl fl_MO_46 (rf_MO_15 hR) ?_
    refine Ev_iload_n (pc := 140) d_MO_field_140 rfl ?_
    refine Ev_iald (pc := 141) d_MO_field_141 rfl rfl n1 n2 ?_
    refine Ev_ireturn (pc := 142) d_MO_field_142 rfl rfl ?_
    rw [f_MO_field, if_neg q1, if_neg q2, if_neg q3, if_neg q4, if_neg q5, if_neg q6, if_neg q7, if_neg q10, if_pos q12] at k
    exact k
  refine Ev_tblOut (pc := 1) (tgt := 143) d_MO_field_1 (by have e0 := lv_neT (a := 0) q1 (by decide); have e1 := lv_neT (a := 1) q2 (by decide); have e2 := lv_neT (a := 2) q3 (by decide); have e3 := lv_neT (a := 3) q4 (by decide); have e4 := lv_neT (a := 4) q5 (by decide); have e5 := lv_neT (a := 5) q6 (by decide); have e6 := lv_neT (a := 6) q7 (by decide); have e7 := lv_neT (a := 7) q10 (by decide); have e8 := lv_neT (a := 8) q12 (by decide); omega) rfl ?_
  refine Ev_aload_n (pc := 143) d_MO_field_143 rfl ?_
  refine Ev_getR (pc := 144) d_MO_field_144 rfl rfl rfl fl_MO_49 (rf_MO_16 hR) ?_
  refine Ev_iload_n (pc := 147) d_MO_field_147 rfl ?_
  refine Ev_iald (pc := 148) d_MO_field_148 rfl rfl n1 n2 ?_
  refine Ev_ireturn (pc := 149) d_MO_field_149 rfl rfl ?_
  rw [f_MO_field, if_neg q1, if_neg q2, if_neg q3, if_neg q4, if_neg q5, if_neg q6, if_neg q7, if_neg q10, if_neg q12] at k
  exact k
def f_MO_isBefore (h : ev_H) (x1 : Int32) (x2 : Int32) : Int32 := (if (gI h 0 13 x1.toNatClampNeg) < (gI h 0 13 x2.toNatClampNeg) then 1 else (if (gI h 0 13 x1.toNatClampNeg) = (gI h 0 13 x2.toNatClampNeg) then (if x2 ≤ x1 then 0 else 1) else 0))
theorem c_MO_isBefore {E : ev_E} {P : Option ev_V ⊕ Nat → ev_H → Prop} {h : ev_H} {x1 : Int32} {x2 : Int32} (hR : rfs h) (n1 : ¬ x1 < 0) (n2 : x1.toNatClampNeg < 48) (n3 : ¬ x2 < 0) (n4 : x2.toNatClampNeg < 48) (k : P (.inl (some (vI (f_MO_isBefore h x1 x2)))) h) : Ev E M_MO_isBefore 0 [(0, vR 0 6), (1, vI x1), (2, vI x2)] [] h P := by
  refine Ev_aload_n (pc := 0) d_MO_isBefore_0 rfl ?_
  refine Ev_getR (pc := 1) d_MO_isBefore_1 rfl rfl rfl fl_MO_28 (rf_MO_9 hR) ?_
  refine Ev_iload_n (pc := 4) d_MO_isBefore_4 rfl ?_
  refine Ev_iald (pc := 5) d_MO_isBefore_5 rfl rfl n1 n2 ?_
  refine Ev_aload_n (pc := 6) d_MO_isBefore_6 rfl ?_
  refine Ev_getR (pc := 7) d_MO_isBefore_7 rfl rfl rfl fl_MO_28 (rf_MO_9 hR) ?_
  refine Ev_iload_n (pc := 10) d_MO_isBefore_10 rfl ?_
  refine Ev_iald (pc := 11) d_MO_isBefore_11 rfl rfl n3 n4 ?_
  refine Ev_icmp_lt (tgt := 35) (pc := 12) d_MO_isBefore_12 rfl (fun q1 => ?_) (fun q1 => ?_)
  · refine Ev_iconst (v := 1) (pc := 35) d_MO_isBefore_35 (by decide) ?_
    refine Ev_goto (tgt := 40) (pc := 36) d_MO_isBefore_36 rfl ?_
    refine Ev_ireturn (pc := 40) d_MO_isBefore_40 rfl rfl ?_
    rw [f_MO_isBefore, if_pos q1] at k
    exact k
  · refine Ev_aload_n (pc := 15) d_MO_isBefore_15 rfl ?_
    refine Ev_getR (pc := 16) d_MO_isBefore_16 rfl rfl rfl fl_MO_28 (rf_MO_9 hR) ?_
    refine Ev_iload_n (pc := 19) d_MO_isBefore_19 rfl ?_
    refine Ev_iald (pc := 20) d_MO_isBefore_20 rfl rfl n1 n2 ?_
    refine Ev_aload_n (pc := 21) d_MO_isBefore_21 rfl ?_
    refine Ev_getR (pc := 22) d_MO_isBefore_22 rfl rfl rfl fl_MO_28 (rf_MO_9 hR) ?_
    refine Ev_iload_n (pc := 25) d_MO_isBefore_25 rfl ?_
    refine Ev_iald (pc := 26) d_MO_isBefore_26 rfl rfl n3 n4 ?_
    refine Ev_icmp_ne (tgt := 39) (pc := 27) d_MO_isBefore_27 rfl (fun q2 => ?_) (fun q2 => ?_)
    · refine Ev_iconst (v := 0) (pc := 39) d_MO_isBefore_39 (by decide) ?_
      refine Ev_ireturn (pc := 40) d_MO_isBefore_40 rfl rfl ?_
      rw [f_MO_isBefore, if_neg q1, if_neg q2] at k
      exact k
    · refine Ev_iload_n (pc := 30) d_MO_isBefore_30 rfl ?_
      refine Ev_iload_n (pc := 31) d_MO_isBefore_31 rfl ?_
      refine Ev_icmp_ge (tgt := 39) (pc := 32) d_MO_isBefore_32 rfl (fun q3 => ?_) (fun q3 => ?_)
      · refine Ev_iconst (v := 0) (pc := 39) d_MO_isBefore_39 (by decide) ?_
        refine Ev_ireturn (pc := 40) d_MO_isBefore_40 rfl rfl ?_
        rw [f_MO_isBefore, if_neg q1, if_pos q2, if_pos q3] at k
        exact k
      · refine Ev_iconst (v := 1) (pc := 35) d_MO_isBefore_35 (by decide) ?_
        refine Ev_goto (tgt := 40) (pc := 36) d_MO_isBefore_36 rfl ?_
        refine Ev_ireturn (pc := 40) d_MO_isBefore_40 rfl rfl ?_
        rw [f_MO_isBefore, if_neg q1, if_pos q2, if_neg q3] at k
        exact k
theorem b_f_MO_isBefore {h : ev_H} {x1 : Int32} {x2 : Int32} : f_MO_isBefore h x1 x2 = 0 ∨ f_MO_isBefore h x1 x2 = 1 := by
  unfold f_MO_isBefore
  first | exact Or.inl rfl | exact Or.inr rfl | (repeat' (split)) <;> (first | exact Or.inl rfl | exact Or.inr rfl)
def f_MO_isOffered (h : ev_H) (x1 : Int32) (x2 : Int32) (x3 : Int32) : Int32 := (if (gI h 0 7 x3.toNatClampNeg) = x2 then (if (f_MO_isReady h x3) = 0 then 0 else (if (f_MO_reasonFor h x1 x3) = 0 then 1 else 0)) else 0)
theorem c_MO_isOffered {E : ev_E} {P : Option ev_V ⊕ Nat → ev_H → Prop} {h : ev_H} {x1 : Int32} {x2 : Int32} {x3 : Int32} (hR : rfs h) (n1 : ¬ x3 < 0) (n2 : x3.toNatClampNeg < 48) (n3 : ¬ x1 < 0) (n4 : x1.toNatClampNeg < 10) (k : P (.inl (some (vI (f_MO_isOffered h x1 x2 x3)))) h) : Ev E M_MO_isOffered 0 [(0, vR 0 6), (1, vI x1), (2, vI x2), (3, vI x3)] [] h P := by
  refine Ev_aload_n (pc := 0) d_MO_isOffered_0 rfl ?_
  refine Ev_getR (pc := 1) d_MO_isOffered_1 rfl rfl rfl fl_MO_7 (rf_MO_3 hR) ?_
  refine Ev_iload_n (pc := 4) d_MO_isOffered_4 rfl ?_
  refine Ev_iald (pc := 5) d_MO_isOffered_5 rfl rfl n1 n2 ?_
  refine Ev_iload_n (pc := 6) d_MO_isOffered_6 rfl ?_
  refine Ev_icmp_ne (tgt := 31) (pc := 7) d_MO_isOffered_7 rfl (fun q1 => ?_) (fun q1 => ?_)
  · refine Ev_iconst (v := 0) (pc := 31) d_MO_isOffered_31 (by decide) ?_
    refine Ev_ireturn (pc := 32) d_MO_isOffered_32 rfl rfl ?_
    rw [f_MO_isOffered, if_neg q1] at k
    exact k
  · refine Ev_aload_n (pc := 10) d_MO_isOffered_10 rfl ?_
    refine Ev_iload_n (pc := 11) d_MO_isOffered_11 rfl ?_
    refine Ev_callV (M' := M_MO_isReady) (as := [vI x3]) (st := []) (a := 0) (i := 6) (pc := 12) d_MO_isOffered_12 rfl rfl rfl rfl rfl rfl rfl v_MO_isReady lk_MO_114 rfl rfl (c_MO_isReady hR n1 n2 ?_)
    refine Ev_if_eq (tgt := 31) (pc := 15) d_MO_isOffered_15 rfl (fun q2 => ?_) (fun q2 => ?_)
    · refine Ev_iconst (v := 0) (pc := 31) d_MO_isOffered_31 (by decide) ?_
      refine Ev_ireturn (pc := 32) d_MO_isOffered_32 rfl rfl ?_
      rw [f_MO_isOffered, if_pos q1, if_pos q2] at k
      exact k
    · refine Ev_aload_n (pc := 18) d_MO_isOffered_18 rfl ?_
      refine Ev_iload_n (pc := 19) d_MO_isOffered_19 rfl ?_
      refine Ev_iload_n (pc := 20) d_MO_isOffered_20 rfl ?_
      refine Ev_callV (M' := M_MO_reasonFor) (as := [vI x1, vI x3]) (st := []) (a := 0) (i := 6) (pc := 21) d_MO_isOffered_21 rfl rfl rfl rfl rfl rfl rfl v_MO_reasonFor lk_MO_127 rfl rfl (c_MO_reasonFor hR n1 n2 n3 n4 ?_)
      refine Ev_if_ne (tgt := 31) (pc := 24) d_MO_isOffered_24 rfl (fun q3 => ?_) (fun q3 => ?_)
      · refine Ev_iconst (v := 0) (pc := 31) d_MO_isOffered_31 (by decide) ?_
        refine Ev_ireturn (pc := 32) d_MO_isOffered_32 rfl rfl ?_
        rw [f_MO_isOffered, if_pos q1, if_neg q2, if_neg q3] at k
        exact k
      · refine Ev_iconst (v := 1) (pc := 27) d_MO_isOffered_27 (by decide) ?_
        refine Ev_goto (tgt := 32) (pc := 28) d_MO_isOffered_28 rfl ?_
        refine Ev_ireturn (pc := 32) d_MO_isOffered_32 rfl rfl ?_
        rw [f_MO_isOffered, if_pos q1, if_neg q2, if_pos q3] at k
        exact k
theorem b_f_MO_isOffered {h : ev_H} {x1 : Int32} {x2 : Int32} {x3 : Int32} : f_MO_isOffered h x1 x2 x3 = 0 ∨ f_MO_isOffered h x1 x2 x3 = 1 := by
  unfold f_MO_isOffered
  first | exact Or.inl rfl | exact Or.inr rfl | (repeat' (split)) <;> (first | exact Or.inl rfl | exact Or.inr rfl | exact b_f_MO_isReady)
def f_MO_expiresIn (h : ev_H) (x1 : Int32) (x2 : Int32) : Int32 := (if (f_MO_stateOf h x1) = 0 then (if (f_MO_isExpired h x1) = 0 then (if ((gI h 0 6 1) + x2) < (gI h 0 13 x1.toNatClampNeg) then 0 else 1) else 0) else (if (f_MO_stateOf h x1) = 1 then (if (f_MO_isExpired h x1) = 0 then (if ((gI h 0 6 1) + x2) < (gI h 0 13 x1.toNatClampNeg) then 0 else 1) else 0) else 0))
theorem c_MO_expiresIn {E : ev_E} {P : Option ev_V ⊕ Nat → ev_H → Prop} {h : ev_H} {x1 : Int32} {x2 : Int32} (hR : rfs h) (n1 : ¬ x1 < 0) (n2 : x1.toNatClampNeg < 48) (k : P (.inl (some (vI (f_MO_expiresIn h x1 x2)))) h) : Ev E M_MO_expiresIn 0 [(0, vR 0 6), (1, vI x1), (2, vI x2)] [] h P := by
  refine Ev_aload_n (pc := 0) d_MO_expiresIn_0 rfl ?_
  refine Ev_iload_n (pc := 1) d_MO_expiresIn_1 rfl ?_
  refine Ev_callV (M' := M_MO_stateOf) (as := [vI x1]) (st := []) (a := 0) (i := 6) (pc := 2) d_MO_expiresIn_2 rfl rfl rfl rfl rfl rfl rfl v_MO_stateOf lk_MO_95 rfl rfl (c_MO_stateOf hR n1 n2 ?_)
  refine Ev_if_eq (tgt := 17) (pc := 5) d_MO_expiresIn_5 rfl (fun q1 => ?_) (fun q1 => ?_)
  · refine Ev_aload_n (pc := 17) d_MO_expiresIn_17 rfl ?_
    refine Ev_iload_n (pc := 18) d_MO_expiresIn_18 rfl ?_
    refine Ev_callV (M' := M_MO_isExpired) (as := [vI x1]) (st := []) (a := 0) (i := 6) (pc := 19) d_MO_expiresIn_19 rfl rfl rfl rfl rfl rfl rfl v_MO_isExpired lk_MO_99 rfl rfl (c_MO_isExpired hR n1 n2 ?_)
    refine Ev_if_ne (tgt := 44) (pc := 22) d_MO_expiresIn_22 rfl (fun q2 => ?_) (fun q2 => ?_)
    · refine Ev_iconst (v := 0) (pc := 44) d_MO_expiresIn_44 (by decide) ?_
      refine Ev_ireturn (pc := 45) d_MO_expiresIn_45 rfl rfl ?_
      rw [f_MO_expiresIn, if_pos q1, if_neg q2] at k
      exact k
    · refine Ev_aload_n (pc := 25) d_MO_expiresIn_25 rfl ?_
      refine Ev_getR (pc := 26) d_MO_expiresIn_26 rfl rfl rfl fl_MO_28 (rf_MO_9 hR) ?_
      refine Ev_iload_n (pc := 29) d_MO_expiresIn_29 rfl ?_
      refine Ev_iald (pc := 30) d_MO_expiresIn_30 rfl rfl n1 n2 ?_
      refine Ev_aload_n (pc := 31) d_MO_expiresIn_31 rfl ?_
      refine Ev_getI (pc := 32) d_MO_expiresIn_32 rfl rfl rfl fl_MO_89 ?_
      refine Ev_iload_n (pc := 35) d_MO_expiresIn_35 rfl ?_
      refine Ev_iadd (pc := 36) d_MO_expiresIn_36 ?_
      refine Ev_icmp_gt (tgt := 44) (pc := 37) d_MO_expiresIn_37 rfl (fun q3 => ?_) (fun q3 => ?_)
      · refine Ev_iconst (v := 0) (pc := 44) d_MO_expiresIn_44 (by decide) ?_
        refine Ev_ireturn (pc := 45) d_MO_expiresIn_45 rfl rfl ?_
        rw [f_MO_expiresIn, if_pos q1, if_pos q2, if_pos q3] at k
        exact k
      · refine Ev_iconst (v := 1) (pc := 40) d_MO_expiresIn_40 (by decide) ?_
        refine Ev_goto (tgt := 45) (pc := 41) d_MO_expiresIn_41 rfl ?_
        refine Ev_ireturn (pc := 45) d_MO_expiresIn_45 rfl rfl ?_
        rw [f_MO_expiresIn, if_pos q1, if_pos q2, if_neg q3] at k
        exact k
  · refine Ev_aload_n (pc := 8) d_MO_expiresIn_8 rfl ?_
    refine Ev_iload_n (pc := 9) d_MO_expiresIn_9 rfl ?_
    refine Ev_callV (M' := M_MO_stateOf) (as := [vI x1]) (st := []) (a := 0) (i := 6) (pc := 10) d_MO_expiresIn_10 rfl rfl rfl rfl rfl rfl rfl v_MO_stateOf lk_MO_95 rfl rfl (c_MO_stateOf hR n1 n2 ?_)
    refine Ev_iconst (v := 1) (pc := 13) d_MO_expiresIn_13 (by decide) ?_
    refine Ev_icmp_ne (tgt := 44) (pc := 14) d_MO_expiresIn_14 rfl (fun q4 => ?_) (fun q4 => ?_)
    · refine Ev_iconst (v := 0) (pc := 44) d_MO_expiresIn_44 (by decide) ?_
      refine Ev_ireturn (pc := 45) d_MO_expiresIn_45 rfl rfl ?_
      rw [f_MO_expiresIn, if_neg q1, if_neg q4] at k
      exact k
    · refine Ev_aload_n (pc := 17) d_MO_expiresIn_17 rfl ?_
      refine Ev_iload_n (pc := 18) d_MO_expiresIn_18 rfl ?_
      refine Ev_callV (M' := M_MO_isExpired) (as := [vI x1]) (st := []) (a := 0) (i := 6) (pc := 19) d_MO_expiresIn_19 rfl rfl rfl rfl rfl rfl rfl v_MO_isExpired lk_MO_99 rfl rfl (c_MO_isExpired hR n1 n2 ?_)
      refine Ev_if_ne (tgt := 44) (pc := 22) d_MO_expiresIn_22 rfl (fun q5 => ?_) (fun q5 => ?_)
      · refine Ev_iconst (v := 0) (pc := 44) d_MO_expiresIn_44 (by decide) ?_
        refine Ev_ireturn (pc := 45) d_MO_expiresIn_45 rfl rfl ?_
        rw [f_MO_expiresIn, if_neg q1, if_pos q4, if_neg q5] at k
        exact k
      · refine Ev_aload_n (pc := 25) d_MO_expiresIn_25 rfl ?_
        refine Ev_getR (pc := 26) d_MO_expiresIn_26 rfl rfl rfl fl_MO_28 (rf_MO_9 hR) ?_
        refine Ev_iload_n (pc := 29) d_MO_expiresIn_29 rfl ?_
        refine Ev_iald (pc := 30) d_MO_expiresIn_30 rfl rfl n1 n2 ?_
        refine Ev_aload_n (pc := 31) d_MO_expiresIn_31 rfl ?_
        refine Ev_getI (pc := 32) d_MO_expiresIn_32 rfl rfl rfl fl_MO_89 ?_
        refine Ev_iload_n (pc := 35) d_MO_expiresIn_35 rfl ?_
        refine Ev_iadd (pc := 36) d_MO_expiresIn_36 ?_
        refine Ev_icmp_gt (tgt := 44) (pc := 37) d_MO_expiresIn_37 rfl (fun q6 => ?_) (fun q6 => ?_)
        · refine Ev_iconst (v := 0) (pc := 44) d_MO_expiresIn_44 (by decide) ?_
          refine Ev_ireturn (pc := 45) d_MO_expiresIn_45 rfl rfl ?_
          rw [f_MO_expiresIn, if_neg q1, if_pos q4, if_pos q5, if_pos q6] at k
          exact k
        · refine Ev_iconst (v := 1) (pc := 40) d_MO_expiresIn_40 (by decide) ?_
          refine Ev_goto (tgt := 45) (pc := 41) d_MO_expiresIn_41 rfl ?_
          refine Ev_ireturn (pc := 45) d_MO_expiresIn_45 rfl rfl ?_
          rw [f_MO_expiresIn, if_neg q1, if_pos q4, if_pos q5, if_neg q6] at k
          exact k
theorem b_f_MO_expiresIn {h : ev_H} {x1 : Int32} {x2 : Int32} : f_MO_expiresIn h x1 x2 = 0 ∨ f_MO_expiresIn h x1 x2 = 1 := by
  unfold f_MO_expiresIn
  first | exact Or.inl rfl | exact Or.inr rfl | (repeat' (split)) <;> (first | exact Or.inl rfl | exact Or.inr rfl | exact b_f_MO_isExpired)
def hp_MO_add_37 (h : ev_H) (x1 : Int32) (x2 : Int32) (x3 : Int32) (x4 : Int32) : ev_H := sI (sI (sI h 0 6 2 ((gI h 0 6 2) + 1)) 0 7 (gI h 0 6 2).toNatClampNeg x2) 0 8 (gI h 0 6 2).toNatClampNeg (gI (sI (sI h 0 6 2 ((gI h 0 6 2) + 1)) 0 7 (gI h 0 6 2).toNatClampNeg x2) 0 8 x1.toNatClampNeg)
def hp_MO_add_63 (h : ev_H) (x1 : Int32) (x2 : Int32) (x3 : Int32) (x4 : Int32) : ev_H := sI (sI (hp_MO_add_37 h x1 x2 x3 x4) 0 9 (gI h 0 6 2).toNatClampNeg (gI (hp_MO_add_37 h x1 x2 x3 x4) 0 9 x1.toNatClampNeg)) 0 10 (gI h 0 6 2).toNatClampNeg (gI (sI (hp_MO_add_37 h x1 x2 x3 x4) 0 9 (gI h 0 6 2).toNatClampNeg (gI (hp_MO_add_37 h x1 x2 x3 x4) 0 9 x1.toNatClampNeg)) 0 10 x1.toNatClampNeg)
def hp_MO_add_91 (h : ev_H) (x1 : Int32) (x2 : Int32) (x3 : Int32) (x4 : Int32) : ev_H := sI (sI (hp_MO_add_63 h x1 x2 x3 x4) 0 11 (gI h 0 6 2).toNatClampNeg (gI (hp_MO_add_63 h x1 x2 x3 x4) 0 11 x1.toNatClampNeg)) 0 12 (gI h 0 6 2).toNatClampNeg ((gI (sI (hp_MO_add_63 h x1 x2 x3 x4) 0 11 (gI h 0 6 2).toNatClampNeg (gI (hp_MO_add_63 h x1 x2 x3 x4) 0 11 x1.toNatClampNeg)) 0 12 x1.toNatClampNeg) ||| x3)
def m_MO_add_134 (h : ev_H) (x1 : Int32) (x2 : Int32) (x3 : Int32) (x4 : Int32) : Int32 := (if x4 < 0 then gI (hp_MO_add_91 h x1 x2 x3 x4) 0 13 x1.toNatClampNeg else (if (gI (hp_MO_add_91 h x1 x2 x3 x4) 0 13 x1.toNatClampNeg) ≤ ((gI (hp_MO_add_91 h x1 x2 x3 x4) 0 6 1) + x4) then gI (hp_MO_add_91 h x1 x2 x3 x4) 0 13 x1.toNatClampNeg else (gI (hp_MO_add_91 h x1 x2 x3 x4) 0 6 1) + x4))
def hp_MO_add_148 (h : ev_H) (x1 : Int32) (x2 : Int32) (x3 : Int32) (x4 : Int32) : ev_H := sI (sI (hp_MO_add_91 h x1 x2 x3 x4) 0 13 (gI h 0 6 2).toNatClampNeg (m_MO_add_134 h x1 x2 x3 x4)) 0 14 (gI h 0 6 2).toNatClampNeg (gI (sI (hp_MO_add_91 h x1 x2 x3 x4) 0 13 (gI h 0 6 2).toNatClampNeg (m_MO_add_134 h x1 x2 x3 x4)) 0 14 x1.toNatClampNeg)
def hp_MO_add_180 (h : ev_H) (x1 : Int32) (x2 : Int32) (x3 : Int32) (x4 : Int32) : ev_H := sI (sI (sI (sI (hp_MO_add_148 h x1 x2 x3 x4) 0 15 (gI h 0 6 2).toNatClampNeg 0) 0 16 (gI h 0 6 2).toNatClampNeg (-1)) 0 18 (gI h 0 6 2).toNatClampNeg 0) 0 19 (gI h 0 6 2).toNatClampNeg 0
def f_MO_add_134 (h : ev_H) (x1 : Int32) (x2 : Int32) (x3 : Int32) (x4 : Int32) : Int32 × ev_H := ((gI h 0 6 2), (sI (hp_MO_add_180 h x1 x2 x3 x4) 0 20 (gI h 0 6 2).toNatClampNeg 0))
theorem c_MO_add_134 {E : ev_E} {P : Option ev_V ⊕ Nat → ev_H → Prop} {h : ev_H} {x1 : Int32} {x2 : Int32} {x3 : Int32} {x4 : Int32} (n0 : ¬ (gI h 0 6 2) < 0) (n1 : (gI h 0 6 2).toNatClampNeg < 48) (hR : rfs h) (n3 : ¬ x1 < 0) (n4 : x1.toNatClampNeg < 48) (k : P (.inl (some (vI (f_MO_add_134 h x1 x2 x3 x4).1))) (f_MO_add_134 h x1 x2 x3 x4).2) : Ev E M_MO_add 134 [(0, vR 0 6), (1, vI x1), (2, vI x2), (3, vI x3), (4, vI x4), (5, vI (gI h 0 6 2))] [vI (m_MO_add_134 h x1 x2 x3 x4), vI (gI h 0 6 2), vR 0 13] (hp_MO_add_91 h x1 x2 x3 x4) P := by
  refine Ev_iast (pc := 134) d_MO_add_134 rfl rfl n0 n1 ?_
  refine Ev_aload_n (pc := 135) d_MO_add_135 rfl ?_
  refine Ev_getR (pc := 136) d_MO_add_136 rfl rfl rfl fl_MO_31 (rf_MO_10 hR) ?_
  refine Ev_iload (pc := 139) d_MO_add_139 rfl ?_
  refine Ev_aload_n (pc := 141) d_MO_add_141 rfl ?_
  refine Ev_getR (pc := 142) d_MO_add_142 rfl rfl rfl fl_MO_31 (rf_MO_10 hR) ?_
  refine Ev_iload_n (pc := 145) d_MO_add_145 rfl ?_
  refine Ev_iald (pc := 146) d_MO_add_146 rfl rfl n3 n4 ?_
  refine Ev_iast (pc := 147) d_MO_add_147 rfl rfl n0 n1 ?_
  show Ev E M_MO_add 148 [(0, vR 0 6), (1, vI x1), (2, vI x2), (3, vI x3), (4, vI x4), (5, vI (gI h 0 6 2))] [] (hp_MO_add_148 h x1 x2 x3 x4) P
  refine Ev_aload_n (pc := 148) d_MO_add_148 rfl ?_
  refine Ev_getR (pc := 149) d_MO_add_149 rfl rfl rfl fl_MO_34 (rf_MO_11 hR) ?_
  refine Ev_iload (pc := 152) d_MO_add_152 rfl ?_
  refine Ev_iconst (v := 0) (pc := 154) d_MO_add_154 (by decide) ?_
  refine Ev_iast (pc := 155) d_MO_add_155 rfl rfl n0 n1 ?_
  refine Ev_aload_n (pc := 156) d_MO_add_156 rfl ?_
  refine Ev_getR (pc := 157) d_MO_add_157 rfl rfl rfl fl_MO_37 (rf_MO_12 hR) ?_
  refine Ev_iload (pc := 160) d_MO_add_160 rfl ?_
  refine Ev_iconst (v := -1) (pc := 162) d_MO_add_162 (by decide) ?_
  refine Ev_iast (pc := 163) d_MO_add_163 rfl rfl n0 n1 ?_
  refine Ev_aload_n (pc := 164) d_MO_add_164 rfl ?_
  refine Ev_getR (pc := 165) d_MO_add_165 rfl rfl rfl fl_MO_43 (rf_MO_14 hR) ?_
  refine Ev_iload (pc := 168) d_MO_add_168 rfl ?_
  refine Ev_iconst (v := 0) (pc := 170) d_MO_add_170 (by decide) ?_
  refine Ev_iast (pc := 171) d_MO_add_171 rfl rfl n0 n1 ?_
  refine Ev_aload_n (pc := 172) d_MO_add_172 rfl ?_
  refine Ev_getR (pc := 173) d_MO_add_173 rfl rfl rfl fl_MO_46 (rf_MO_15 hR) ?_
  refine Ev_iload (pc := 176) d_MO_add_176 rfl ?_
  refine Ev_iconst (v := 0) (pc := 178) d_MO_add_178 (by decide) ?_
  refine Ev_iast (pc := 179) d_MO_add_179 rfl rfl n0 n1 ?_
  show Ev E M_MO_add 180 [(0, vR 0 6), (1, vI x1), (2, vI x2), (3, vI x3), (4, vI x4), (5, vI (gI h 0 6 2))] [] (hp_MO_add_180 h x1 x2 x3 x4) P
  refine Ev_aload_n (pc := 180) d_MO_add_180 rfl ?_
  refine Ev_getR (pc := 181) d_MO_add_181 rfl rfl rfl fl_MO_49 (rf_MO_16 hR) ?_
  refine Ev_iload (pc := 184) d_MO_add_184 rfl ?_
  refine Ev_iconst (v := 0) (pc := 186) d_MO_add_186 (by decide) ?_
  refine Ev_iast (pc := 187) d_MO_add_187 rfl rfl n0 n1 ?_
  refine Ev_iload (pc := 188) d_MO_add_188 rfl ?_
  refine Ev_ireturn (pc := 190) d_MO_add_190 rfl rfl ?_
  rw [f_MO_add_134] at k
  exact k
def f_MO_add (h : ev_H) (x1 : Int32) (x2 : Int32) (x3 : Int32) (x4 : Int32) : Int32 × ev_H := f_MO_add_134 h x1 x2 x3 x4
theorem c_MO_add {E : ev_E} {P : Option ev_V ⊕ Nat → ev_H → Prop} {h : ev_H} {x1 : Int32} {x2 : Int32} {x3 : Int32} {x4 : Int32} (hR : rfs h) (n1 : ¬ (gI h 0 6 2) < 0) (n2 : (gI h 0 6 2).toNatClampNeg < 48) (n3 : ¬ x1 < 0) (n4 : x1.toNatClampNeg < 48) (k : P (.inl (some (vI (f_MO_add h x1 x2 x3 x4).1))) (f_MO_add h x1 x2 x3 x4).2) : Ev E M_MO_add 0 [(0, vR 0 6), (1, vI x1), (2, vI x2), (3, vI x3), (4, vI x4)] [] h P := by
  refine Ev_aload_n (pc := 0) d_MO_add_0 rfl ?_
  refine Ev_getI (pc := 1) d_MO_add_1 rfl rfl rfl fl_MO_74 ?_
  refine Ev_istore (pc := 4) d_MO_add_4 rfl ?_
  refine Ev_aload_n (pc := 6) d_MO_add_6 rfl ?_
  refine Ev_dup (pc := 7) d_MO_add_7 rfl ?_
  refine Ev_getI (pc := 8) d_MO_add_8 rfl rfl rfl fl_MO_74 ?_
  refine Ev_iconst (v := 1) (pc := 11) d_MO_add_11 (by decide) ?_
  refine Ev_iadd (pc := 12) d_MO_add_12 ?_
  refine Ev_putI (pc := 13) d_MO_add_13 rfl rfl rfl fl_MO_74 rfl ?_
  refine Ev_aload_n (pc := 16) d_MO_add_16 rfl ?_
  refine Ev_getR (pc := 17) d_MO_add_17 rfl rfl rfl fl_MO_7 (rf_MO_3 hR) ?_
  refine Ev_iload (pc := 20) d_MO_add_20 rfl ?_
  refine Ev_iload_n (pc := 22) d_MO_add_22 rfl ?_
  refine Ev_iast (pc := 23) d_MO_add_23 rfl rfl n1 n2 ?_
  refine Ev_aload_n (pc := 24) d_MO_add_24 rfl ?_
  refine Ev_getR (pc := 25) d_MO_add_25 rfl rfl rfl fl_MO_13 (rf_MO_4 hR) ?_
  refine Ev_iload (pc := 28) d_MO_add_28 rfl ?_
  refine Ev_aload_n (pc := 30) d_MO_add_30 rfl ?_
  refine Ev_getR (pc := 31) d_MO_add_31 rfl rfl rfl fl_MO_13 (rf_MO_4 hR) ?_
  refine Ev_iload_n (pc := 34) d_MO_add_34 rfl ?_
  refine Ev_iald (pc := 35) d_MO_add_35 rfl rfl n3 n4 ?_
  refine Ev_iast (pc := 36) d_MO_add_36 rfl rfl n1 n2 ?_
  show Ev E M_MO_add 37 [(0, vR 0 6), (1, vI x1), (2, vI x2), (3, vI x3), (4, vI x4), (5, vI (gI h 0 6 2))] [] (hp_MO_add_37 h x1 x2 x3 x4) P
  refine Ev_aload_n (pc := 37) d_MO_add_37 rfl ?_
  refine Ev_getR (pc := 38) d_MO_add_38 rfl rfl rfl fl_MO_16 (rf_MO_5 hR) ?_
  refine Ev_iload (pc := 41) d_MO_add_41 rfl ?_
  refine Ev_aload_n (pc := 43) d_MO_add_43 rfl ?_
  refine Ev_getR (pc := 44) d_MO_add_44 rfl rfl rfl fl_MO_16 (rf_MO_5 hR) ?_
  refine Ev_iload_n (pc := 47) d_MO_add_47 rfl ?_
  refine Ev_iald (pc := 48) d_MO_add_48 rfl rfl n3 n4 ?_
  refine Ev_iast (pc := 49) d_MO_add_49 rfl rfl n1 n2 ?_
  refine Ev_aload_n (pc := 50) d_MO_add_50 rfl ?_
  refine Ev_getR (pc := 51) d_MO_add_51 rfl rfl rfl fl_MO_19 (rf_MO_6 hR) ?_
  refine Ev_iload (pc := 54) d_MO_add_54 rfl ?_
  refine Ev_aload_n (pc := 56) d_MO_add_56 rfl ?_
  refine Ev_getR (pc := 57) d_MO_add_57 rfl rfl rfl fl_MO_19 (rf_MO_6 hR) ?_
  refine Ev_iload_n (pc := 60) d_MO_add_60 rfl ?_
  refine Ev_iald (pc := 61) d_MO_add_61 rfl rfl n3 n4 ?_
  refine Ev_iast (pc := 62) d_MO_add_62 rfl rfl n1 n2 ?_
  show Ev E M_MO_add 63 [(0, vR 0 6), (1, vI x1), (2, vI x2), (3, vI x3), (4, vI x4), (5, vI (gI h 0 6 2))] [] (hp_MO_add_63 h x1 x2 x3 x4) P
  refine Ev_aload_n (pc := 63) d_MO_add_63 rfl ?_
  refine Ev_getR (pc := 64) d_MO_add_64 rfl rfl rfl fl_MO_22 (rf_MO_7 hR) ?_
  refine Ev_iload (pc := 67) d_MO_add_67 rfl ?_
  refine Ev_aload_n (pc := 69) d_MO_add_69 rfl ?_
  refine Ev_getR (pc := 70) d_MO_add_70 rfl rfl rfl fl_MO_22 (rf_MO_7 hR) ?_
  refine Ev_iload_n (pc := 73) d_MO_add_73 rfl ?_
  refine Ev_iald (pc := 74) d_MO_add_74 rfl rfl n3 n4 ?_
  refine Ev_iast (pc := 75) d_MO_add_75 rfl rfl n1 n2 ?_
  refine Ev_aload_n (pc := 76) d_MO_add_76 rfl ?_
  refine Ev_getR (pc := 77) d_MO_add_77 rfl rfl rfl fl_MO_25 (rf_MO_8 hR) ?_
  refine Ev_iload (pc := 80) d_MO_add_80 rfl ?_
  refine Ev_aload_n (pc := 82) d_MO_add_82 rfl ?_
  refine Ev_getR (pc := 83) d_MO_add_83 rfl rfl rfl fl_MO_25 (rf_MO_8 hR) ?_
  refine Ev_iload_n (pc := 86) d_MO_add_86 rfl ?_
  refine Ev_iald (pc := 87) d_MO_add_87 rfl rfl n3 n4 ?_
  refine Ev_iload_n (pc := 88) d_MO_add_88 rfl ?_
  refine Ev_ior (pc := 89) d_MO_add_89 ?_
  refine Ev_iast (pc := 90) d_MO_add_90 rfl rfl n1 n2 ?_
  show Ev E M_MO_add 91 [(0, vR 0 6), (1, vI x1), (2, vI x2), (3, vI x3), (4, vI x4), (5, vI (gI h 0 6 2))] [] (hp_MO_add_91 h x1 x2 x3 x4) P
  refine Ev_aload_n (pc := 91) d_MO_add_91 rfl ?_
  refine Ev_getR (pc := 92) d_MO_add_92 rfl rfl rfl fl_MO_28 (rf_MO_9 hR) ?_
  refine Ev_iload (pc := 95) d_MO_add_95 rfl ?_
  refine Ev_iload (pc := 97) d_MO_add_97 rfl ?_
  refine Ev_if_lt (tgt := 128) (pc := 99) d_MO_add_99 rfl (fun q1 => ?_) (fun q1 => ?_)
  · refine Ev_aload_n (pc := 128) d_MO_add_128 rfl ?_
    refine Ev_getR (pc := 129) d_MO_add_129 rfl rfl rfl fl_MO_28 (rf_MO_9 hR) ?_
    refine Ev_iload_n (pc := 132) d_MO_add_132 rfl ?_
    refine Ev_iald (pc := 133) d_MO_add_133 rfl rfl n3 n4 ?_
    rw [f_MO_add] at k
    have j := c_MO_add_134 (E := E) (P := P) (h := h) (x1 := x1) (x2 := x2) (x3 := x3) (x4 := x4) n1 n2 hR n3 n4 k
    rw [m_MO_add_134, if_pos q1] at j
    exact j
  · refine Ev_aload_n (pc := 102) d_MO_add_102 rfl ?_
    refine Ev_getI (pc := 103) d_MO_add_103 rfl rfl rfl fl_MO_89 ?_
    refine Ev_iload (pc := 106) d_MO_add_106 rfl ?_
    refine Ev_iadd (pc := 108) d_MO_add_108 ?_
    refine Ev_aload_n (pc := 109) d_MO_add_109 rfl ?_
    refine Ev_getR (pc := 110) d_MO_add_110 rfl rfl rfl fl_MO_28 (rf_MO_9 hR) ?_
    refine Ev_iload_n (pc := 113) d_MO_add_113 rfl ?_
    refine Ev_iald (pc := 114) d_MO_add_114 rfl rfl n3 n4 ?_
    refine Ev_icmp_ge (tgt := 128) (pc := 115) d_MO_add_115 rfl (fun q3 => ?_) (fun q3 => ?_)
    · refine Ev_aload_n (pc := 128) d_MO_add_128 rfl ?_
      refine Ev_getR (pc := 129) d_MO_add_129 rfl rfl rfl fl_MO_28 (rf_MO_9 hR) ?_
      refine Ev_iload_n (pc := 132) d_MO_add_132 rfl ?_
      refine Ev_iald (pc := 133) d_MO_add_133 rfl rfl n3 n4 ?_
      rw [f_MO_add] at k
      have j := c_MO_add_134 (E := E) (P := P) (h := h) (x1 := x1) (x2 := x2) (x3 := x3) (x4 := x4) n1 n2 hR n3 n4 k
      rw [m_MO_add_134, if_neg q1, if_pos q3] at j
      exact j
    · refine Ev_aload_n (pc := 118) d_MO_add_118 rfl ?_
      refine Ev_getI (pc := 119) d_MO_add_119 rfl rfl rfl fl_MO_89 ?_
      refine Ev_iload (pc := 122) d_MO_add_122 rfl ?_
      refine Ev_iadd (pc := 124) d_MO_add_124 ?_
      refine Ev_goto (tgt := 134) (pc := 125) d_MO_add_125 rfl ?_
      rw [f_MO_add] at k
      have j := c_MO_add_134 (E := E) (P := P) (h := h) (x1 := x1) (x2 := x2) (x3 := x3) (x4 := x4) n1 n2 hR n3 n4 k
      rw [m_MO_add_134, if_neg q1, if_neg q3] at j
      exact j
def m_MO_unit_54 (x1 : Int32) (x2 : Int32) (x3 : Int32) (x4 : Int32) (x5 : Int32) : Int32 := (if (f_MO_in x1 0 15) = 0 then 1 else (if (f_MO_in x2 0 3) = 0 then 1 else (if (f_MO_in x3 0 3) = 0 then 1 else (if (f_MO_in x4 0 1) = 0 then 1 else (if (f_MO_in x5 1 60000) = 0 then 1 else 0)))))
def m_MO_unit_73 (h : ev_H) (x1 : Int32) (x2 : Int32) (x3 : Int32) (x4 : Int32) (x5 : Int32) : Int32 := (if (gI h 0 6 2) = 48 then 1 else 0)
def hp_MO_unit_97 (h : ev_H) (x1 : Int32) (x2 : Int32) (x3 : Int32) (x4 : Int32) (x5 : Int32) : ev_H := sI ((f_MO_refused h (m_MO_unit_54 x1 x2 x3 x4 x5) (m_MO_unit_73 h x1 x2 x3 x4 x5) 0 0).2) 0 8 (gI ((f_MO_refused h (m_MO_unit_54 x1 x2 x3 x4 x5) (m_MO_unit_73 h x1 x2 x3 x4 x5) 0 0).2) 0 6 2).toNatClampNeg x3
def hp_MO_unit_106 (h : ev_H) (x1 : Int32) (x2 : Int32) (x3 : Int32) (x4 : Int32) (x5 : Int32) : ev_H := sI (hp_MO_unit_97 h x1 x2 x3 x4 x5) 0 9 (gI ((f_MO_refused h (m_MO_unit_54 x1 x2 x3 x4 x5) (m_MO_unit_73 h x1 x2 x3 x4 x5) 0 0).2) 0 6 2).toNatClampNeg x4
def hp_MO_unit_114 (h : ev_H) (x1 : Int32) (x2 : Int32) (x3 : Int32) (x4 : Int32) (x5 : Int32) : ev_H := sI (hp_MO_unit_106 h x1 x2 x3 x4 x5) 0 10 (gI ((f_MO_refused h (m_MO_unit_54 x1 x2 x3 x4 x5) (m_MO_unit_73 h x1 x2 x3 x4 x5) 0 0).2) 0 6 2).toNatClampNeg 0
def hp_MO_unit_122 (h : ev_H) (x1 : Int32) (x2 : Int32) (x3 : Int32) (x4 : Int32) (x5 : Int32) : ev_H := sI (hp_MO_unit_114 h x1 x2 x3 x4 x5) 0 11 (gI ((f_MO_refused h (m_MO_unit_54 x1 x2 x3 x4 x5) (m_MO_unit_73 h x1 x2 x3 x4 x5) 0 0).2) 0 6 2).toNatClampNeg 0
def hp_MO_unit_130 (h : ev_H) (x1 : Int32) (x2 : Int32) (x3 : Int32) (x4 : Int32) (x5 : Int32) : ev_H := sI (hp_MO_unit_122 h x1 x2 x3 x4 x5) 0 12 (gI ((f_MO_refused h (m_MO_unit_54 x1 x2 x3 x4 x5) (m_MO_unit_73 h x1 x2 x3 x4 x5) 0 0).2) 0 6 2).toNatClampNeg 0
def hp_MO_unit_144 (h : ev_H) (x1 : Int32) (x2 : Int32) (x3 : Int32) (x4 : Int32) (x5 : Int32) : ev_H := sI (hp_MO_unit_130 h x1 x2 x3 x4 x5) 0 13 (gI ((f_MO_refused h (m_MO_unit_54 x1 x2 x3 x4 x5) (m_MO_unit_73 h x1 x2 x3 x4 x5) 0 0).2) 0 6 2).toNatClampNeg ((gI (hp_MO_unit_130 h x1 x2 x3 x4 x5) 0 6 1) + x5)
def hp_MO_unit_154 (h : ev_H) (x1 : Int32) (x2 : Int32) (x3 : Int32) (x4 : Int32) (x5 : Int32) : ev_H := sI (hp_MO_unit_144 h x1 x2 x3 x4 x5) 0 14 (gI ((f_MO_refused h (m_MO_unit_54 x1 x2 x3 x4 x5) (m_MO_unit_73 h x1 x2 x3 x4 x5) 0 0).2) 0 6 2).toNatClampNeg (1 <<< (x1 &&& 31))
def hp_MO_unit_163 (h : ev_H) (x1 : Int32) (x2 : Int32) (x3 : Int32) (x4 : Int32) (x5 : Int32) : ev_H := (f_MO_add (hp_MO_unit_154 h x1 x2 x3 x4 x5) (gI ((f_MO_refused h (m_MO_unit_54 x1 x2 x3 x4 x5) (m_MO_unit_73 h x1 x2 x3 x4 x5) 0 0).2) 0 6 2) x2 0 (-1)).2
def f_MO_unit_73 (h : ev_H) (x1 : Int32) (x2 : Int32) (x3 : Int32) (x4 : Int32) (x5 : Int32) : Int32 × ev_H := ((if ((f_MO_refused h (m_MO_unit_54 x1 x2 x3 x4 x5) (m_MO_unit_73 h x1 x2 x3 x4 x5) 0 0).1) = 0 then ((f_MO_add (hp_MO_unit_154 h x1 x2 x3 x4 x5) (gI ((f_MO_refused h (m_MO_unit_54 x1 x2 x3 x4 x5) (m_MO_unit_73 h x1 x2 x3 x4 x5) 0 0).2) 0 6 2) x2 0 (-1)).1) else 0), (if ((f_MO_refused h (m_MO_unit_54 x1 x2 x3 x4 x5) (m_MO_unit_73 h x1 x2 x3 x4 x5) 0 0).1) = 0 then (hp_MO_unit_163 h x1 x2 x3 x4 x5) else ((f_MO_refused h (m_MO_unit_54 x1 x2 x3 x4 x5) (m_MO_unit_73 h x1 x2 x3 x4 x5) 0 0).2)))
theorem c_MO_unit_73 {E : ev_E} {P : Option ev_V ⊕ Nat → ev_H → Prop} {h : ev_H} {x1 : Int32} {x2 : Int32} {x3 : Int32} {x4 : Int32} {x5 : Int32} (hR : rfs h) (n1 : ¬ (gI h 0 6 2) < 0) (n2 : (((f_MO_refused h (m_MO_unit_54 x1 x2 x3 x4 x5) (m_MO_unit_73 h x1 x2 x3 x4 x5) 0 0).1) = 0) → (gI h 0 6 2).toNatClampNeg < 48) (k : P (.inl (some (vI (f_MO_unit_73 h x1 x2 x3 x4 x5).1))) (f_MO_unit_73 h x1 x2 x3 x4 x5).2) : Ev E M_MO_unit 73 [(0, vR 0 6), (1, vI x1), (2, vI x2), (3, vI x3), (4, vI x4), (5, vI x5), (6, vI (m_MO_unit_54 x1 x2 x3 x4 x5))] [vI (m_MO_unit_73 h x1 x2 x3 x4 x5), vI (m_MO_unit_54 x1 x2 x3 x4 x5), vR 0 6] h P := by
  refine Ev_iconst (v := 0) (pc := 73) d_MO_unit_73 (by decide) ?_
  refine Ev_iconst (v := 0) (pc := 74) d_MO_unit_74 (by decide) ?_
  refine Ev_callV (M' := M_MO_refused) (as := [vI (m_MO_unit_54 x1 x2 x3 x4 x5), vI (m_MO_unit_73 h x1 x2 x3 x4 x5), vI 0, vI 0]) (st := []) (a := 0) (i := 6) (pc := 75) d_MO_unit_75 rfl rfl rfl rfl rfl rfl rfl v_MO_refused lk_MO_85 rfl rfl (c_MO_refused  ?_)
  refine Ev_if_eq (tgt := 83) (pc := 78) d_MO_unit_78 rfl (fun q7 => ?_) (fun q7 => ?_)
  · refine Ev_aload_n (pc := 83) d_MO_unit_83 rfl ?_
    refine Ev_getI (pc := 84) d_MO_unit_84 rfl rfl rfl fl_MO_74 ?_
    refine Ev_istore (pc := 87) d_MO_unit_87 rfl ?_
    refine Ev_aload_n (pc := 89) d_MO_unit_89 rfl ?_
    refine Ev_getR (pc := 90) d_MO_unit_90 rfl rfl rfl fl_MO_13 (rf_MO_4 hR) ?_
    refine Ev_iload (pc := 93) d_MO_unit_93 rfl ?_
    refine Ev_iload_n (pc := 95) d_MO_unit_95 rfl ?_
    refine Ev_iast (pc := 96) d_MO_unit_96 rfl rfl n1 (n2 q7) ?_
    show Ev E M_MO_unit 97 [(0, vR 0 6), (1, vI x1), (2, vI x2), (3, vI x3), (4, vI x4), (5, vI x5), (6, vI (m_MO_unit_54 x1 x2 x3 x4 x5)), (7, vI (gI ((f_MO_refused h (m_MO_unit_54 x1 x2 x3 x4 x5) (m_MO_unit_73 h x1 x2 x3 x4 x5) 0 0).2) 0 6 2))] [] (hp_MO_unit_97 h x1 x2 x3 x4 x5) P
    refine Ev_aload_n (pc := 97) d_MO_unit_97 rfl ?_
    refine Ev_getR (pc := 98) d_MO_unit_98 rfl rfl rfl fl_MO_16 (rf_MO_5 hR) ?_
    refine Ev_iload (pc := 101) d_MO_unit_101 rfl ?_
    refine Ev_iload (pc := 103) d_MO_unit_103 rfl ?_
    refine Ev_iast (pc := 105) d_MO_unit_105 rfl rfl n1 (n2 q7) ?_
    show Ev E M_MO_unit 106 [(0, vR 0 6), (1, vI x1), (2, vI x2), (3, vI x3), (4, vI x4), (5, vI x5), (6, vI (m_MO_unit_54 x1 x2 x3 x4 x5)), (7, vI (gI ((f_MO_refused h (m_MO_unit_54 x1 x2 x3 x4 x5) (m_MO_unit_73 h x1 x2 x3 x4 x5) 0 0).2) 0 6 2))] [] (hp_MO_unit_106 h x1 x2 x3 x4 x5) P
    refine Ev_aload_n (pc := 106) d_MO_unit_106 rfl ?_
    refine Ev_getR (pc := 107) d_MO_unit_107 rfl rfl rfl fl_MO_19 (rf_MO_6 hR) ?_
    refine Ev_iload (pc := 110) d_MO_unit_110 rfl ?_
    refine Ev_iconst (v := 0) (pc := 112) d_MO_unit_112 (by decide) ?_
    refine Ev_iast (pc := 113) d_MO_unit_113 rfl rfl n1 (n2 q7) ?_
    show Ev E M_MO_unit 114 [(0, vR 0 6), (1, vI x1), (2, vI x2), (3, vI x3), (4, vI x4), (5, vI x5), (6, vI (m_MO_unit_54 x1 x2 x3 x4 x5)), (7, vI (gI ((f_MO_refused h (m_MO_unit_54 x1 x2 x3 x4 x5) (m_MO_unit_73 h x1 x2 x3 x4 x5) 0 0).2) 0 6 2))] [] (hp_MO_unit_114 h x1 x2 x3 x4 x5) P
    refine Ev_aload_n (pc := 114) d_MO_unit_114 rfl ?_
    refine Ev_getR (pc := 115) d_MO_unit_115 rfl rfl rfl fl_MO_22 (rf_MO_7 hR) ?_
    refine Ev_iload (pc := 118) d_MO_unit_118 rfl ?_
    refine Ev_iconst (v := 0) (pc := 120) d_MO_unit_120 (by decide) ?_
    refine Ev_iast (pc := 121) d_MO_unit_121 rfl rfl n1 (n2 q7) ?_
    show Ev E M_MO_unit 122 [(0, vR 0 6), (1, vI x1), (2, vI x2), (3, vI x3), (4, vI x4), (5, vI x5), (6, vI (m_MO_unit_54 x1 x2 x3 x4 x5)), (7, vI (gI ((f_MO_refused h (m_MO_unit_54 x1 x2 x3 x4 x5) (m_MO_unit_73 h x1 x2 x3 x4 x5) 0 0).2) 0 6 2))] [] (hp_MO_unit_122 h x1 x2 x3 x4 x5) P
    refine Ev_aload_n (pc := 122) d_MO_unit_122 rfl ?_
    refine Ev_getR (pc := 123) d_MO_unit_123 rfl rfl rfl fl_MO_25 (rf_MO_8 hR) ?_
    refine Ev_iload (pc := 126) d_MO_unit_126 rfl ?_
    refine Ev_iconst (v := 0) (pc := 128) d_MO_unit_128 (by decide) ?_
    refine Ev_iast (pc := 129) d_MO_unit_129 rfl rfl n1 (n2 q7) ?_
    show Ev E M_MO_unit 130 [(0, vR 0 6), (1, vI x1), (2, vI x2), (3, vI x3), (4, vI x4), (5, vI x5), (6, vI (m_MO_unit_54 x1 x2 x3 x4 x5)), (7, vI (gI ((f_MO_refused h (m_MO_unit_54 x1 x2 x3 x4 x5) (m_MO_unit_73 h x1 x2 x3 x4 x5) 0 0).2) 0 6 2))] [] (hp_MO_unit_130 h x1 x2 x3 x4 x5) P
    refine Ev_aload_n (pc := 130) d_MO_unit_130 rfl ?_
    refine Ev_getR (pc := 131) d_MO_unit_131 rfl rfl rfl fl_MO_28 (rf_MO_9 hR) ?_
    refine Ev_iload (pc := 134) d_MO_unit_134 rfl ?_
    refine Ev_aload_n (pc := 136) d_MO_unit_136 rfl ?_
    refine Ev_getI (pc := 137) d_MO_unit_137 rfl rfl rfl fl_MO_89 ?_
    refine Ev_iload (pc := 140) d_MO_unit_140 rfl ?_
    refine Ev_iadd (pc := 142) d_MO_unit_142 ?_
    refine Ev_iast (pc := 143) d_MO_unit_143 rfl rfl n1 (n2 q7) ?_
    show Ev E M_MO_unit 144 [(0, vR 0 6), (1, vI x1), (2, vI x2), (3, vI x3), (4, vI x4), (5, vI x5), (6, vI (m_MO_unit_54 x1 x2 x3 x4 x5)), (7, vI (gI ((f_MO_refused h (m_MO_unit_54 x1 x2 x3 x4 x5) (m_MO_unit_73 h x1 x2 x3 x4 x5) 0 0).2) 0 6 2))] [] (hp_MO_unit_144 h x1 x2 x3 x4 x5) P
    refine Ev_aload_n (pc := 144) d_MO_unit_144 rfl ?_
    refine Ev_getR (pc := 145) d_MO_unit_145 rfl rfl rfl fl_MO_31 (rf_MO_10 hR) ?_
    refine Ev_iload (pc := 148) d_MO_unit_148 rfl ?_
    refine Ev_iconst (v := 1) (pc := 150) d_MO_unit_150 (by decide) ?_
    refine Ev_iload_n (pc := 151) d_MO_unit_151 rfl ?_
    refine Ev_ishl (pc := 152) d_MO_unit_152 ?_
    refine Ev_iast (pc := 153) d_MO_unit_153 rfl rfl n1 (n2 q7) ?_
    show Ev E M_MO_unit 154 [(0, vR 0 6), (1, vI x1), (2, vI x2), (3, vI x3), (4, vI x4), (5, vI x5), (6, vI (m_MO_unit_54 x1 x2 x3 x4 x5)), (7, vI (gI ((f_MO_refused h (m_MO_unit_54 x1 x2 x3 x4 x5) (m_MO_unit_73 h x1 x2 x3 x4 x5) 0 0).2) 0 6 2))] [] (hp_MO_unit_154 h x1 x2 x3 x4 x5) P
    refine Ev_aload_n (pc := 154) d_MO_unit_154 rfl ?_
    refine Ev_iload (pc := 155) d_MO_unit_155 rfl ?_
    refine Ev_iload_n (pc := 157) d_MO_unit_157 rfl ?_
    refine Ev_iconst (v := 0) (pc := 158) d_MO_unit_158 (by decide) ?_
    refine Ev_iconst (v := -1) (pc := 159) d_MO_unit_159 (by decide) ?_
    refine Ev_callV (M' := M_MO_add) (as := [vI (gI ((f_MO_refused h (m_MO_unit_54 x1 x2 x3 x4 x5) (m_MO_unit_73 h x1 x2 x3 x4 x5) 0 0).2) 0 6 2), vI x2, vI 0, vI (-1)]) (st := []) (a := 0) (i := 6) (pc := 160) d_MO_unit_160 rfl rfl rfl rfl rfl rfl rfl v_MO_add lk_MO_107 rfl rfl (c_MO_add hR n1 (n2 q7) n1 (n2 q7) ?_)
    show Ev E M_MO_unit 163 [(0, vR 0 6), (1, vI x1), (2, vI x2), (3, vI x3), (4, vI x4), (5, vI x5), (6, vI (m_MO_unit_54 x1 x2 x3 x4 x5)), (7, vI (gI ((f_MO_refused h (m_MO_unit_54 x1 x2 x3 x4 x5) (m_MO_unit_73 h x1 x2 x3 x4 x5) 0 0).2) 0 6 2))] [vI ((f_MO_add (hp_MO_unit_154 h x1 x2 x3 x4 x5) (gI ((f_MO_refused h (m_MO_unit_54 x1 x2 x3 x4 x5) (m_MO_unit_73 h x1 x2 x3 x4 x5) 0 0).2) 0 6 2) x2 0 (-1)).1)] (hp_MO_unit_163 h x1 x2 x3 x4 x5) P
    refine Ev_ireturn (pc := 163) d_MO_unit_163 rfl rfl ?_
    simp only [f_MO_unit_73, if_pos q7] at k
    exact k
  · refine Ev_iconst (v := 0) (pc := 81) d_MO_unit_81 (by decide) ?_
    refine Ev_ireturn (pc := 82) d_MO_unit_82 rfl rfl ?_
    simp only [f_MO_unit_73, if_neg q7] at k
    exact k
def f_MO_unit_54 (h : ev_H) (x1 : Int32) (x2 : Int32) (x3 : Int32) (x4 : Int32) (x5 : Int32) : Int32 × ev_H := f_MO_unit_73 h x1 x2 x3 x4 x5
theorem c_MO_unit_54 {E : ev_E} {P : Option ev_V ⊕ Nat → ev_H → Prop} {h : ev_H} {x1 : Int32} {x2 : Int32} {x3 : Int32} {x4 : Int32} {x5 : Int32} (hR : rfs h) (n1 : ¬ (gI h 0 6 2) < 0) (n2 : (((f_MO_refused h (m_MO_unit_54 x1 x2 x3 x4 x5) (m_MO_unit_73 h x1 x2 x3 x4 x5) 0 0).1) = 0) → (gI h 0 6 2).toNatClampNeg < 48) (k : P (.inl (some (vI (f_MO_unit_54 h x1 x2 x3 x4 x5).1))) (f_MO_unit_54 h x1 x2 x3 x4 x5).2) : Ev E M_MO_unit 54 [(0, vR 0 6), (1, vI x1), (2, vI x2), (3, vI x3), (4, vI x4), (5, vI x5)] [vI (m_MO_unit_54 x1 x2 x3 x4 x5)] h P := by
  refine Ev_istore (pc := 54) d_MO_unit_54 rfl ?_
  refine Ev_aload_n (pc := 56) d_MO_unit_56 rfl ?_
  refine Ev_iload (pc := 57) d_MO_unit_57 rfl ?_
  refine Ev_aload_n (pc := 59) d_MO_unit_59 rfl ?_
  refine Ev_getI (pc := 60) d_MO_unit_60 rfl rfl rfl fl_MO_74 ?_
  refine Ev_bipush (v := 48) (pc := 63) d_MO_unit_63 (by decide) ?_
  refine Ev_icmp_ne (tgt := 72) (pc := 65) d_MO_unit_65 rfl (fun q6 => ?_) (fun q6 => ?_)
  · refine Ev_iconst (v := 0) (pc := 72) d_MO_unit_72 (by decide) ?_
    rw [f_MO_unit_54] at k
    have j := c_MO_unit_73 (E := E) (P := P) (h := h) (x1 := x1) (x2 := x2) (x3 := x3) (x4 := x4) (x5 := x5) hR n1 n2 k
    rw [m_MO_unit_73, if_neg q6] at j
    exact j
  · refine Ev_iconst (v := 1) (pc := 68) d_MO_unit_68 (by decide) ?_
    refine Ev_goto (tgt := 73) (pc := 69) d_MO_unit_69 rfl ?_
    rw [f_MO_unit_54] at k
    have j := c_MO_unit_73 (E := E) (P := P) (h := h) (x1 := x1) (x2 := x2) (x3 := x3) (x4 := x4) (x5 := x5) hR n1 n2 k
    rw [m_MO_unit_73, if_pos q6] at j
    exact j
def f_MO_unit (h : ev_H) (x1 : Int32) (x2 : Int32) (x3 : Int32) (x4 : Int32) (x5 : Int32) : Int32 × ev_H := f_MO_unit_54 h x1 x2 x3 x4 x5
theorem c_MO_unit {E : ev_E} {P : Option ev_V ⊕ Nat → ev_H → Prop} {h : ev_H} {x1 : Int32} {x2 : Int32} {x3 : Int32} {x4 : Int32} {x5 : Int32} (hR : rfs h) (n1 : ¬ (gI h 0 6 2) < 0) (n2 : (((f_MO_refused h (m_MO_unit_54 x1 x2 x3 x4 x5) (m_MO_unit_73 h x1 x2 x3 x4 x5) 0 0).1) = 0) → (gI h 0 6 2).toNatClampNeg < 48) (k : P (.inl (some (vI (f_MO_unit h x1 x2 x3 x4 x5).1))) (f_MO_unit h x1 x2 x3 x4 x5).2) : Ev E M_MO_unit 0 [(0, vR 0 6), (1, vI x1), (2, vI x2), (3, vI x3), (4, vI x4), (5, vI x5)] [] h P := by
  refine Ev_iload_n (pc := 0) d_MO_unit_0 rfl ?_
  refine Ev_iconst (v := 0) (pc := 1) d_MO_unit_1 (by decide) ?_
  refine Ev_bipush (v := 15) (pc := 2) d_MO_unit_2 (by decide) ?_
  refine Ev_callS (M' := M_MO_in) (as := [vI x1, vI 0, vI 15]) (st := []) (pc := 4) d_MO_unit_4 rfl rfl rfl s_MO_in lk_MO_77 rfl rfl (c_MO_in  ?_)
  refine Ev_if_eq (tgt := 49) (pc := 7) d_MO_unit_7 rfl (fun q1 => ?_) (fun q1 => ?_)
  · refine Ev_iconst (v := 1) (pc := 49) d_MO_unit_49 (by decide) ?_
    refine Ev_goto (tgt := 54) (pc := 50) d_MO_unit_50 rfl ?_
    rw [f_MO_unit] at k
    have j := c_MO_unit_54 (E := E) (P := P) (h := h) (x1 := x1) (x2 := x2) (x3 := x3) (x4 := x4) (x5 := x5) hR n1 n2 k
    rw [m_MO_unit_54, if_pos q1] at j
    exact j
  · refine Ev_iload_n (pc := 10) d_MO_unit_10 rfl ?_
    refine Ev_iconst (v := 0) (pc := 11) d_MO_unit_11 (by decide) ?_
    refine Ev_iconst (v := 3) (pc := 12) d_MO_unit_12 (by decide) ?_
    refine Ev_callS (M' := M_MO_in) (as := [vI x2, vI 0, vI 3]) (st := []) (pc := 13) d_MO_unit_13 rfl rfl rfl s_MO_in lk_MO_77 rfl rfl (c_MO_in  ?_)
    refine Ev_if_eq (tgt := 49) (pc := 16) d_MO_unit_16 rfl (fun q8 => ?_) (fun q8 => ?_)
    · refine Ev_iconst (v := 1) (pc := 49) d_MO_unit_49 (by decide) ?_
      refine Ev_goto (tgt := 54) (pc := 50) d_MO_unit_50 rfl ?_
      rw [f_MO_unit] at k
      have j := c_MO_unit_54 (E := E) (P := P) (h := h) (x1 := x1) (x2 := x2) (x3 := x3) (x4 := x4) (x5 := x5) hR n1 n2 k
      rw [m_MO_unit_54, if_neg q1, if_pos q8] at j
      exact j
    · refine Ev_iload_n (pc := 19) d_MO_unit_19 rfl ?_
      refine Ev_iconst (v := 0) (pc := 20) d_MO_unit_20 (by decide) ?_
      refine Ev_iconst (v := 3) (pc := 21) d_MO_unit_21 (by decide) ?_
      refine Ev_callS (M' := M_MO_in) (as := [vI x3, vI 0, vI 3]) (st := []) (pc := 22) d_MO_unit_22 rfl rfl rfl s_MO_in lk_MO_77 rfl rfl (c_MO_in  ?_)
      refine Ev_if_eq (tgt := 49) (pc := 25) d_MO_unit_25 rfl (fun q9 => ?_) (fun q9 => ?_)
      · refine Ev_iconst (v := 1) (pc := 49) d_MO_unit_49 (by decide) ?_
        refine Ev_goto (tgt := 54) (pc := 50) d_MO_unit_50 rfl ?_
        rw [f_MO_unit] at k
        have j := c_MO_unit_54 (E := E) (P := P) (h := h) (x1 := x1) (x2 := x2) (x3 := x3) (x4 := x4) (x5 := x5) hR n1 n2 k
        rw [m_MO_unit_54, if_neg q1, if_neg q8, if_pos q9] at j
        exact j
      · refine Ev_iload (pc := 28) d_MO_unit_28 rfl ?_
        refine Ev_iconst (v := 0) (pc := 30) d_MO_unit_30 (by decide) ?_
        refine Ev_iconst (v := 1) (pc := 31) d_MO_unit_31 (by decide) ?_
        refine Ev_callS (M' := M_MO_in) (as := [vI x4, vI 0, vI 1]) (st := []) (pc := 32) d_MO_unit_32 rfl rfl rfl s_MO_in lk_MO_77 rfl rfl (c_MO_in  ?_)
        refine Ev_if_eq (tgt := 49) (pc := 35) d_MO_unit_35 rfl (fun q10 => ?_) (fun q10 => ?_)
        · refine Ev_iconst (v := 1) (pc := 49) d_MO_unit_49 (by decide) ?_
          refine Ev_goto (tgt := 54) (pc := 50) d_MO_unit_50 rfl ?_
          rw [f_MO_unit] at k
          have j := c_MO_unit_54 (E := E) (P := P) (h := h) (x1 := x1) (x2 := x2) (x3 := x3) (x4 := x4) (x5 := x5) hR n1 n2 k
          rw [m_MO_unit_54, if_neg q1, if_neg q8, if_neg q9, if_pos q10] at j
          exact j
        · refine Ev_iload (pc := 38) d_MO_unit_38 rfl ?_
          refine Ev_iconst (v := 1) (pc := 40) d_MO_unit_40 (by decide) ?_
          refine Ev_ldc (pc := 41) d_MO_unit_41 w_con_MO_106 ?_
          refine Ev_callS (M' := M_MO_in) (as := [vI x5, vI 1, vI 60000]) (st := []) (pc := 43) d_MO_unit_43 rfl rfl rfl s_MO_in lk_MO_77 rfl rfl (c_MO_in  ?_)
          refine Ev_if_ne (tgt := 53) (pc := 46) d_MO_unit_46 rfl (fun q11 => ?_) (fun q11 => ?_)
          · refine Ev_iconst (v := 0) (pc := 53) d_MO_unit_53 (by decide) ?_
            rw [f_MO_unit] at k
            have j := c_MO_unit_54 (E := E) (P := P) (h := h) (x1 := x1) (x2 := x2) (x3 := x3) (x4 := x4) (x5 := x5) hR n1 n2 k
            rw [m_MO_unit_54, if_neg q1, if_neg q8, if_neg q9, if_neg q10, if_neg q11] at j
            exact j
          · refine Ev_iconst (v := 1) (pc := 49) d_MO_unit_49 (by decide) ?_
            refine Ev_goto (tgt := 54) (pc := 50) d_MO_unit_50 rfl ?_
            rw [f_MO_unit] at k
            have j := c_MO_unit_54 (E := E) (P := P) (h := h) (x1 := x1) (x2 := x2) (x3 := x3) (x4 := x4) (x5 := x5) hR n1 n2 k
            rw [m_MO_unit_54, if_neg q1, if_neg q8, if_neg q9, if_neg q10, if_pos q11] at j
            exact j
def m_MO_patient_15 (h : ev_H) : Int32 := (if (gI h 0 6 19) = 10 then 1 else 0)
def hp_MO_patient_46 (h : ev_H) : ev_H := sI (sI ((f_MO_refused h (m_MO_patient_15 h) 0 0 0).2) 0 21 (gI ((f_MO_refused h (m_MO_patient_15 h) 0 0 0).2) 0 6 19).toNatClampNeg (-1)) 0 6 19 ((gI (sI ((f_MO_refused h (m_MO_patient_15 h) 0 0 0).2) 0 21 (gI ((f_MO_refused h (m_MO_patient_15 h) 0 0 0).2) 0 6 19).toNatClampNeg (-1)) 0 6 19) + 1)
def f_MO_patient_15 (h : ev_H) : Int32 × ev_H := ((if ((f_MO_refused h (m_MO_patient_15 h) 0 0 0).1) = 0 then ((gI (hp_MO_patient_46 h) 0 6 19) - 1) else 0), (if ((f_MO_refused h (m_MO_patient_15 h) 0 0 0).1) = 0 then (hp_MO_patient_46 h) else ((f_MO_refused h (m_MO_patient_15 h) 0 0 0).2)))
theorem c_MO_patient_15 {E : ev_E} {P : Option ev_V ⊕ Nat → ev_H → Prop} {h : ev_H} (hR : rfs h) (n1 : ¬ (gI h 0 6 19) < 0) (n2 : (((f_MO_refused h (m_MO_patient_15 h) 0 0 0).1) = 0) → (gI h 0 6 19).toNatClampNeg < 10) (k : P (.inl (some (vI (f_MO_patient_15 h).1))) (f_MO_patient_15 h).2) : Ev E M_MO_patient 15 [(0, vR 0 6)] [vI (m_MO_patient_15 h), vR 0 6] h P := by
  refine Ev_iconst (v := 0) (pc := 15) d_MO_patient_15 (by decide) ?_
  refine Ev_iconst (v := 0) (pc := 16) d_MO_patient_16 (by decide) ?_
  refine Ev_iconst (v := 0) (pc := 17) d_MO_patient_17 (by decide) ?_
  refine Ev_callV (M' := M_MO_refused) (as := [vI (m_MO_patient_15 h), vI 0, vI 0, vI 0]) (st := []) (a := 0) (i := 6) (pc := 18) d_MO_patient_18 rfl rfl rfl rfl rfl rfl rfl v_MO_refused lk_MO_85 rfl rfl (c_MO_refused  ?_)
  refine Ev_if_eq (tgt := 26) (pc := 21) d_MO_patient_21 rfl (fun q2 => ?_) (fun q2 => ?_)
  · refine Ev_aload_n (pc := 26) d_MO_patient_26 rfl ?_
    refine Ev_getR (pc := 27) d_MO_patient_27 rfl rfl rfl fl_MO_52 (rf_MO_20 hR) ?_
    refine Ev_aload_n (pc := 30) d_MO_patient_30 rfl ?_
    refine Ev_getI (pc := 31) d_MO_patient_31 rfl rfl rfl fl_MO_81 ?_
    refine Ev_iconst (v := -1) (pc := 34) d_MO_patient_34 (by decide) ?_
    refine Ev_iast (pc := 35) d_MO_patient_35 rfl rfl n1 (n2 q2) ?_
    refine Ev_aload_n (pc := 36) d_MO_patient_36 rfl ?_
    refine Ev_dup (pc := 37) d_MO_patient_37 rfl ?_
    refine Ev_getI (pc := 38) d_MO_patient_38 rfl rfl rfl fl_MO_81 ?_
    refine Ev_iconst (v := 1) (pc := 41) d_MO_patient_41 (by decide) ?_
    refine Ev_iadd (pc := 42) d_MO_patient_42 ?_
    refine Ev_putI (pc := 43) d_MO_patient_43 rfl rfl rfl fl_MO_81 rfl ?_
    show Ev E M_MO_patient 46 [(0, vR 0 6)] [] (hp_MO_patient_46 h) P
    refine Ev_aload_n (pc := 46) d_MO_patient_46 rfl ?_
    refine Ev_getI (pc := 47) d_MO_patient_47 rfl rfl rfl fl_MO_81 ?_
    refine Ev_iconst (v := 1) (pc := 50) d_MO_patient_50 (by decide) ?_
    refine Ev_isub (pc := 51) d_MO_patient_51 ?_
    refine Ev_ireturn (pc := 52) d_MO_patient_52 rfl rfl ?_
    simp only [f_MO_patient_15, if_pos q2] at k
    exact k
  · refine Ev_iconst (v := 0) (pc := 24) d_MO_patient_24 (by decide) ?_
    refine Ev_ireturn (pc := 25) d_MO_patient_25 rfl rfl ?_
    simp only [f_MO_patient_15, if_neg q2] at k
    exact k
def f_MO_patient (h : ev_H) : Int32 × ev_H := f_MO_patient_15 h
theorem c_MO_patient {E : ev_E} {P : Option ev_V ⊕ Nat → ev_H → Prop} {h : ev_H} (hR : rfs h) (n1 : ¬ (gI h 0 6 19) < 0) (n2 : (((f_MO_refused h (m_MO_patient_15 h) 0 0 0).1) = 0) → (gI h 0 6 19).toNatClampNeg < 10) (k : P (.inl (some (vI (f_MO_patient h).1))) (f_MO_patient h).2) : Ev E M_MO_patient 0 [(0, vR 0 6)] [] h P := by
  refine Ev_aload_n (pc := 0) d_MO_patient_0 rfl ?_
  refine Ev_aload_n (pc := 1) d_MO_patient_1 rfl ?_
  refine Ev_getI (pc := 2) d_MO_patient_2 rfl rfl rfl fl_MO_81 ?_
  refine Ev_bipush (v := 10) (pc := 5) d_MO_patient_5 (by decide) ?_
  refine Ev_icmp_ne (tgt := 14) (pc := 7) d_MO_patient_7 rfl (fun q1 => ?_) (fun q1 => ?_)
  · refine Ev_iconst (v := 0) (pc := 14) d_MO_patient_14 (by decide) ?_
    rw [f_MO_patient] at k
    have j := c_MO_patient_15 (E := E) (P := P) (h := h)  hR n1 n2 k
    rw [m_MO_patient_15, if_neg q1] at j
    exact j
  · refine Ev_iconst (v := 1) (pc := 10) d_MO_patient_10 (by decide) ?_
    refine Ev_goto (tgt := 15) (pc := 11) d_MO_patient_11 rfl ?_
    rw [f_MO_patient] at k
    have j := c_MO_patient_15 (E := E) (P := P) (h := h)  hR n1 n2 k
    rw [m_MO_patient_15, if_pos q1] at j
    exact j