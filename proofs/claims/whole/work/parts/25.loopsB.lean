/-! loops of the reference (by program) -/
def m_MO_count_L40s_77 (h : ev_H) (x1 : Int32) (x2 : Int32) (a : Nat) (c3 : Int32) : Int32 := (if (gI h 0 7 a) = x1 then (if (f_MO_stateOf h (nI a)) = x2 then c3 + 1 else c3) else c3)
theorem c_MO_count_L40s_77 {E : ev_E} {P : Option ev_V ⊕ Nat → ev_H → Prop} {h : ev_H} {x1 : Int32} {x2 : Int32} {a : Nat} {c3 : Int32} (k : Ev E M_MO_count 40 [(0, vR 0 6), (1, vI x1), (2, vI x2), (3, vI (m_MO_count_L40s_77 h x1 x2 a c3)), (4, vI ((nI a) + 1))] [] h P) : Ev E M_MO_count 77 [(0, vR 0 6), (1, vI x1), (2, vI x2), (3, vI c3), (4, vI (nI a))] [vI (m_MO_count_L40s_77 h x1 x2 a c3)] h P := by
  refine Ev_istore_n (pc := 77) d_MO_count_77 rfl ?_
  refine Ev_iinc (d := 1) (pc := 78) d_MO_count_78 rfl (by decide) rfl ?_
  refine Ev_goto (tgt := 40) (pc := 81) d_MO_count_81 rfl ?_
  exact k
theorem c_MO_count_L40s {E : ev_E} {P : Option ev_V ⊕ Nat → ev_H → Prop} {h : ev_H} {x1 : Int32} {x2 : Int32} {a : Nat} {c3 : Int32} (q0 : ¬ (gI h 0 6 2) ≤ (nI a)) (hR : rfs h) (n2 : a < 48) (k : Ev E M_MO_count 40 [(0, vR 0 6), (1, vI x1), (2, vI x2), (3, vI (m_MO_count_L40s_77 h x1 x2 a c3)), (4, vI ((nI a) + 1))] [] h P) : Ev E M_MO_count 40 [(0, vR 0 6), (1, vI x1), (2, vI x2), (3, vI c3), (4, vI (nI a))] [] h P := by
  refine Ev_iload (pc := 40) d_MO_count_40 rfl ?_
  refine Ev_aload_n (pc := 42) d_MO_count_42 rfl ?_
  refine Ev_getI (pc := 43) d_MO_count_43 rfl rfl rfl fl_MO_74 ?_
  refine Ev_icmp_ge (tgt := 84) (pc := 46) d_MO_count_46 rfl (fun q => absurd q q0) (fun _ => ?_)
  refine Ev_aload_n (pc := 49) d_MO_count_49 rfl ?_
  refine Ev_getR (pc := 50) d_MO_count_50 rfl rfl rfl fl_MO_7 (rf_MO_3 hR) ?_
  refine Ev_iload (pc := 53) d_MO_count_53 rfl ?_
  refine Ev_ialdJ (pc := 55) d_MO_count_55 rfl rfl (nIp (Nat.lt_of_lt_of_le n2 (by decide))) (nIc (Nat.lt_of_lt_of_le n2 (by decide))) n2 ?_
  refine Ev_iload_n (pc := 56) d_MO_count_56 rfl ?_
  refine Ev_icmp_ne (tgt := 76) (pc := 57) d_MO_count_57 rfl (fun q1 => ?_) (fun q1 => ?_)
  · refine Ev_iload_n (pc := 76) d_MO_count_76 rfl ?_
    have j := c_MO_count_L40s_77 (E := E) (P := P) (h := h) (x1 := x1) (x2 := x2) (a := a) (c3 := c3)  k
    rw [m_MO_count_L40s_77, if_neg q1] at j
    exact j
  · refine Ev_aload_n (pc := 60) d_MO_count_60 rfl ?_
    refine Ev_iload (pc := 61) d_MO_count_61 rfl ?_
    refine Ev_callV (M' := M_MO_stateOf) (as := [vI (nI a)]) (st := []) (a := 0) (i := 6) (pc := 63) d_MO_count_63 rfl rfl rfl rfl rfl rfl rfl v_MO_stateOf lk_MO_95 rfl rfl (c_MO_stateOf hR (nIp (Nat.lt_of_lt_of_le n2 (by decide))) (nIb n2) ?_)
    refine Ev_iload_n (pc := 66) d_MO_count_66 rfl ?_
    refine Ev_icmp_ne (tgt := 76) (pc := 67) d_MO_count_67 rfl (fun q3 => ?_) (fun q3 => ?_)
    · refine Ev_iload_n (pc := 76) d_MO_count_76 rfl ?_
      have j := c_MO_count_L40s_77 (E := E) (P := P) (h := h) (x1 := x1) (x2 := x2) (a := a) (c3 := c3)  k
      rw [m_MO_count_L40s_77, if_pos q1, if_neg q3] at j
      exact j
    · refine Ev_iload_n (pc := 70) d_MO_count_70 rfl ?_
      refine Ev_iconst (v := 1) (pc := 71) d_MO_count_71 (by decide) ?_
      refine Ev_iadd (pc := 72) d_MO_count_72 ?_
      refine Ev_goto (tgt := 77) (pc := 73) d_MO_count_73 rfl ?_
      have j := c_MO_count_L40s_77 (E := E) (P := P) (h := h) (x1 := x1) (x2 := x2) (a := a) (c3 := c3)  k
      rw [m_MO_count_L40s_77, if_pos q1, if_pos q3] at j
      exact j
def r_MO_count_L40 (h : ev_H) (x1 : Int32) (x2 : Int32) : Nat → Int32
  | 0 => 0
  | a + 1 => (m_MO_count_L40s_77 h x1 x2 a (r_MO_count_L40 h x1 x2 a))
theorem lp_MO_count_L40 {E : ev_E} {P : Option ev_V ⊕ Nat → ev_H → Prop} {h : ev_H} {x1 : Int32} {x2 : Int32} (n : Nat) (hn : n ≤ 48) (hb : (gI h 0 6 2) = nI n) (hR : rfs h) (k : Ev E M_MO_count 40 [(0, vR 0 6), (1, vI x1), (2, vI x2), (3, vI (r_MO_count_L40 h x1 x2 n)), (4, vI (nI n))] [] h P) : Ev E M_MO_count 40 [(0, vR 0 6), (1, vI x1), (2, vI x2), (3, vI 0), (4, vI 0)] [] h P := by
  refine Ev_for n (fun a => [(0, vR 0 6), (1, vI x1), (2, vI x2), (3, vI (r_MO_count_L40 h x1 x2 a)), (4, vI (nI a))]) (fun a => h) (fun a ha k => ?_) k
  have k2 : Ev E M_MO_count 40 [(0, vR 0 6), (1, vI x1), (2, vI x2), (3, vI (r_MO_count_L40 h x1 x2 (a + 1))), (4, vI (nI (a + 1)))] [] h P := k
  rw [nI_succ] at k2
  exact c_MO_count_L40s (by rw [hb]; exact nI_ge ha (Nat.lt_of_le_of_lt hn (by decide))) hR (Nat.lt_of_lt_of_le ha (Nat.le_trans hn (by decide))) k2
def m_MO_count_24 (x1 : Int32) (x2 : Int32) : Int32 := (if (f_MO_in x1 0 3) = 0 then 1 else (if (f_MO_in x2 0 5) = 0 then 1 else 0))
def f_MO_count_24 (h : ev_H) (x1 : Int32) (x2 : Int32) : Int32 × ev_H := ((if ((f_MO_refused h (m_MO_count_24 x1 x2) 0 0 0).1) = 0 then (r_MO_count_L40 ((f_MO_refused h (m_MO_count_24 x1 x2) 0 0 0).2) x1 x2 (gI ((f_MO_refused h (m_MO_count_24 x1 x2) 0 0 0).2) 0 6 2).toNatClampNeg) else 0), ((f_MO_refused h (m_MO_count_24 x1 x2) 0 0 0).2))
theorem c_MO_count_24 {E : ev_E} {P : Option ev_V ⊕ Nat → ev_H → Prop} {h : ev_H} {x1 : Int32} {x2 : Int32} (n0 : (gI h 0 6 2).toNatClampNeg ≤ 48) (n1 : (gI h 0 6 2) = nI (gI h 0 6 2).toNatClampNeg) (hR : rfs h) (k : P (.inl (some (vI (f_MO_count_24 h x1 x2).1))) (f_MO_count_24 h x1 x2).2) : Ev E M_MO_count 24 [(0, vR 0 6), (1, vI x1), (2, vI x2)] [vI (m_MO_count_24 x1 x2), vR 0 6] h P := by
  refine Ev_iconst (v := 0) (pc := 24) d_MO_count_24 (by decide) ?_
  refine Ev_iconst (v := 0) (pc := 25) d_MO_count_25 (by decide) ?_
  refine Ev_iconst (v := 0) (pc := 26) d_MO_count_26 (by decide) ?_
  refine Ev_callV (M' := M_MO_refused) (as := [vI (m_MO_count_24 x1 x2), vI 0, vI 0, vI 0]) (st := []) (a := 0) (i := 6) (pc := 27) d_MO_count_27 rfl rfl rfl rfl rfl rfl rfl v_MO_refused lk_MO_85 rfl rfl (c_MO_refused  ?_)
  refine Ev_if_eq (tgt := 35) (pc := 30) d_MO_count_30 rfl (fun q3 => ?_) (fun q3 => ?_)
  · refine Ev_iconst (v := 0) (pc := 35) d_MO_count_35 (by decide) ?_
    refine Ev_istore_n (pc := 36) d_MO_count_36 rfl ?_
    refine Ev_iconst (v := 0) (pc := 37) d_MO_count_37 (by decide) ?_
    refine Ev_istore (pc := 38) d_MO_count_38 rfl ?_
    refine lp_MO_count_L40 ((gI ((f_MO_refused h (m_MO_count_24 x1 x2) 0 0 0).2) 0 6 2).toNatClampNeg) n0 n1 hR ?_
    refine Ev_iload (pc := 40) d_MO_count_40 rfl ?_
    refine Ev_aload_n (pc := 42) d_MO_count_42 rfl ?_
    refine Ev_getI (pc := 43) d_MO_count_43 rfl rfl rfl fl_MO_74 ?_
    refine Ev_icmp_ge (tgt := 84) (pc := 46) d_MO_count_46 rfl (fun _ => ?_) (fun q => absurd (lpx n1) q)
    refine Ev_iload_n (pc := 84) d_MO_count_84 rfl ?_
    refine Ev_ireturn (pc := 85) d_MO_count_85 rfl rfl ?_
    simp only [f_MO_count_24, if_pos q3] at k
    exact k
  · refine Ev_iconst (v := 0) (pc := 33) d_MO_count_33 (by decide) ?_
    refine Ev_ireturn (pc := 34) d_MO_count_34 rfl rfl ?_
    simp only [f_MO_count_24, if_neg q3] at k
    exact k
def f_MO_count (h : ev_H) (x1 : Int32) (x2 : Int32) : Int32 × ev_H := f_MO_count_24 h x1 x2
theorem c_MO_count {E : ev_E} {P : Option ev_V ⊕ Nat → ev_H → Prop} {h : ev_H} {x1 : Int32} {x2 : Int32} (n0 : (gI h 0 6 2).toNatClampNeg ≤ 48) (n1 : (gI h 0 6 2) = nI (gI h 0 6 2).toNatClampNeg) (hR : rfs h) (k : P (.inl (some (vI (f_MO_count h x1 x2).1))) (f_MO_count h x1 x2).2) : Ev E M_MO_count 0 [(0, vR 0 6), (1, vI x1), (2, vI x2)] [] h P := by
  refine Ev_aload_n (pc := 0) d_MO_count_0 rfl ?_
  refine Ev_iload_n (pc := 1) d_MO_count_1 rfl ?_
  refine Ev_iconst (v := 0) (pc := 2) d_MO_count_2 (by decide) ?_
  refine Ev_iconst (v := 3) (pc := 3) d_MO_count_3 (by decide) ?_
  refine Ev_callS (M' := M_MO_in) (as := [vI x1, vI 0, vI 3]) (st := [vR 0 6]) (pc := 4) d_MO_count_4 rfl rfl rfl s_MO_in lk_MO_77 rfl rfl (c_MO_in  ?_)
  refine Ev_if_eq (tgt := 19) (pc := 7) d_MO_count_7 rfl (fun q1 => ?_) (fun q1 => ?_)
  · refine Ev_iconst (v := 1) (pc := 19) d_MO_count_19 (by decide) ?_
    refine Ev_goto (tgt := 24) (pc := 20) d_MO_count_20 rfl ?_
    rw [f_MO_count] at k
    have j := c_MO_count_24 (E := E) (P := P) (h := h) (x1 := x1) (x2 := x2) n0 n1 hR k
    rw [m_MO_count_24, if_pos q1] at j
    exact j
  · refine Ev_iload_n (pc := 10) d_MO_count_10 rfl ?_
    refine Ev_iconst (v := 0) (pc := 11) d_MO_count_11 (by decide) ?_
    refine Ev_iconst (v := 5) (pc := 12) d_MO_count_12 (by decide) ?_
    refine Ev_callS (M' := M_MO_in) (as := [vI x2, vI 0, vI 5]) (st := [vR 0 6]) (pc := 13) d_MO_count_13 rfl rfl rfl s_MO_in lk_MO_77 rfl rfl (c_MO_in  ?_)
    refine Ev_if_ne (tgt := 23) (pc := 16) d_MO_count_16 rfl (fun q4 => ?_) (fun q4 => ?_)
    · refine Ev_iconst (v := 0) (pc := 23) d_MO_count_23 (by decide) ?_
      rw [f_MO_count] at k
      have j := c_MO_count_24 (E := E) (P := P) (h := h) (x1 := x1) (x2 := x2) n0 n1 hR k
      rw [m_MO_count_24, if_neg q1, if_neg q4] at j
      exact j
    · refine Ev_iconst (v := 1) (pc := 19) d_MO_count_19 (by decide) ?_
      refine Ev_goto (tgt := 24) (pc := 20) d_MO_count_20 rfl ?_
      rw [f_MO_count] at k
      have j := c_MO_count_24 (E := E) (P := P) (h := h) (x1 := x1) (x2 := x2) n0 n1 hR k
      rw [m_MO_count_24, if_neg q1, if_pos q4] at j
      exact j
def m_MO_stock_L50s_105 (h : ev_H) (x1 : Int32) (x2 : Int32) (x3 : Int32) (a : Nat) (c4 : Int32) : Int32 := (if (gI h 0 7 a) = x1 then (if x2 < 0 then (if x3 < 0 then 1 else (if (gI h 0 9 a) = x3 then 1 else 0)) else (if (gI h 0 8 a) = x2 then (if x3 < 0 then 1 else (if (gI h 0 9 a) = x3 then 1 else 0)) else 0)) else 0)
def m_MO_stock_L50s_130 (h : ev_H) (x1 : Int32) (x2 : Int32) (x3 : Int32) (a : Nat) (c4 : Int32) : Int32 := (if (m_MO_stock_L50s_105 h x1 x2 x3 a c4) = 0 then c4 else (if (f_MO_isReady h (nI a)) = 0 then c4 else c4 + 1))
theorem c_MO_stock_L50s_130 {E : ev_E} {P : Option ev_V ⊕ Nat → ev_H → Prop} {h : ev_H} {x1 : Int32} {x2 : Int32} {x3 : Int32} {a : Nat} {c4 : Int32} (k : Ev E M_MO_stock 50 [(0, vR 0 6), (1, vI x1), (2, vI x2), (3, vI x3), (4, vI (m_MO_stock_L50s_130 h x1 x2 x3 a c4)), (5, vI ((nI a) + 1))] [] h P) : Ev E M_MO_stock 130 [(0, vR 0 6), (1, vI x1), (2, vI x2), (3, vI x3), (4, vI c4), (5, vI (nI a)), (6, vI (m_MO_stock_L50s_105 h x1 x2 x3 a c4))] [vI (m_MO_stock_L50s_130 h x1 x2 x3 a c4)] h P := by
  refine Ev_istore (pc := 130) d_MO_stock_130 rfl ?_
  refine Ev_iinc (d := 1) (pc := 132) d_MO_stock_132 rfl (by decide) rfl ?_
  refine Ev_goto (tgt := 50) (pc := 135) d_MO_stock_135 rfl ?_
  refine Ev_sub (lsub ?_) k
  exact (And.intro rfl (And.intro rfl (And.intro rfl (And.intro rfl (And.intro rfl (And.intro rfl trivial))))))
theorem c_MO_stock_L50s_105 {E : ev_E} {P : Option ev_V ⊕ Nat → ev_H → Prop} {h : ev_H} {x1 : Int32} {x2 : Int32} {x3 : Int32} {a : Nat} {c4 : Int32} (hR : rfs h) (n1 : a < 48) (k : Ev E M_MO_stock 50 [(0, vR 0 6), (1, vI x1), (2, vI x2), (3, vI x3), (4, vI (m_MO_stock_L50s_130 h x1 x2 x3 a c4)), (5, vI ((nI a) + 1))] [] h P) : Ev E M_MO_stock 105 [(0, vR 0 6), (1, vI x1), (2, vI x2), (3, vI x3), (4, vI c4), (5, vI (nI a))] [vI (m_MO_stock_L50s_105 h x1 x2 x3 a c4)] h P := by
  refine Ev_istore (pc := 105) d_MO_stock_105 rfl ?_
  refine Ev_iload (pc := 107) d_MO_stock_107 rfl ?_
  refine Ev_if_eq (tgt := 128) (pc := 109) d_MO_stock_109 rfl (fun q8 => ?_) (fun q8 => ?_)
  · refine Ev_iload (pc := 128) d_MO_stock_128 rfl ?_
    have j := c_MO_stock_L50s_130 (E := E) (P := P) (h := h) (x1 := x1) (x2 := x2) (x3 := x3) (a := a) (c4 := c4)  k
    rw [m_MO_stock_L50s_130, if_pos q8] at j
    exact j
  · refine Ev_aload_n (pc := 112) d_MO_stock_112 rfl ?_
    refine Ev_iload (pc := 113) d_MO_stock_113 rfl ?_
    refine Ev_callV (M' := M_MO_isReady) (as := [vI (nI a)]) (st := []) (a := 0) (i := 6) (pc := 115) d_MO_stock_115 rfl rfl rfl rfl rfl rfl rfl v_MO_isReady lk_MO_114 rfl rfl (c_MO_isReady hR (nIp (Nat.lt_of_lt_of_le n1 (by decide))) (nIb n1) ?_)
    refine Ev_if_eq (tgt := 128) (pc := 118) d_MO_stock_118 rfl (fun q10 => ?_) (fun q10 => ?_)
    · refine Ev_iload (pc := 128) d_MO_stock_128 rfl ?_
      have j := c_MO_stock_L50s_130 (E := E) (P := P) (h := h) (x1 := x1) (x2 := x2) (x3 := x3) (a := a) (c4 := c4)  k
      rw [m_MO_stock_L50s_130, if_neg q8, if_pos q10] at j
      exact j
    · refine Ev_iload (pc := 121) d_MO_stock_121 rfl ?_
      refine Ev_iconst (v := 1) (pc := 123) d_MO_stock_123 (by decide) ?_
      refine Ev_iadd (pc := 124) d_MO_stock_124 ?_
      refine Ev_goto (tgt := 130) (pc := 125) d_MO_stock_125 rfl ?_
      have j := c_MO_stock_L50s_130 (E := E) (P := P) (h := h) (x1 := x1) (x2 := x2) (x3 := x3) (a := a) (c4 := c4)  k
      rw [m_MO_stock_L50s_130, if_neg q8, if_neg q10] at j
      exact j
theorem c_MO_stock_L50s {E : ev_E} {P : Option ev_V ⊕ Nat → ev_H → Prop} {h : ev_H} {x1 : Int32} {x2 : Int32} {x3 : Int32} {a : Nat} {c4 : Int32} (q0 : ¬ (gI h 0 6 2) ≤ (nI a)) (hR : rfs h) (n2 : a < 48) (k : Ev E M_MO_stock 50 [(0, vR 0 6), (1, vI x1), (2, vI x2), (3, vI x3), (4, vI (m_MO_stock_L50s_130 h x1 x2 x3 a c4)), (5, vI ((nI a) + 1))] [] h P) : Ev E M_MO_stock 50 [(0, vR 0 6), (1, vI x1), (2, vI x2), (3, vI x3), (4, vI c4), (5, vI (nI a))] [] h P := by
  refine Ev_iload (pc := 50) d_MO_stock_50 rfl ?_
  refine Ev_aload_n (pc := 52) d_MO_stock_52 rfl ?_
  refine Ev_getI (pc := 53) d_MO_stock_53 rfl rfl rfl fl_MO_74 ?_
  refine Ev_icmp_ge (tgt := 138) (pc := 56) d_MO_stock_56 rfl (fun q => absurd q q0) (fun _ => ?_)
  refine Ev_aload_n (pc := 59) d_MO_stock_59 rfl ?_
  refine Ev_getR (pc := 60) d_MO_stock_60 rfl rfl rfl fl_MO_7 (rf_MO_3 hR) ?_
  refine Ev_iload (pc := 63) d_MO_stock_63 rfl ?_
  refine Ev_ialdJ (pc := 65) d_MO_stock_65 rfl rfl (nIp (Nat.lt_of_lt_of_le n2 (by decide))) (nIc (Nat.lt_of_lt_of_le n2 (by decide))) n2 ?_
  refine Ev_iload_n (pc := 66) d_MO_stock_66 rfl ?_
  refine Ev_icmp_ne (tgt := 104) (pc := 67) d_MO_stock_67 rfl (fun q1 => ?_) (fun q1 => ?_)
  · refine Ev_iconst (v := 0) (pc := 104) d_MO_stock_104 (by decide) ?_
    have j := c_MO_stock_L50s_105 (E := E) (P := P) (h := h) (x1 := x1) (x2 := x2) (x3 := x3) (a := a) (c4 := c4) hR n2 k
    rw [m_MO_stock_L50s_105, if_neg q1] at j
    exact j
  · refine Ev_iload_n (pc := 70) d_MO_stock_70 rfl ?_
    refine Ev_if_lt (tgt := 85) (pc := 71) d_MO_stock_71 rfl (fun q11 => ?_) (fun q11 => ?_)
    · refine Ev_iload_n (pc := 85) d_MO_stock_85 rfl ?_
      refine Ev_if_lt (tgt := 100) (pc := 86) d_MO_stock_86 rfl (fun q12 => ?_) (fun q12 => ?_)
      · refine Ev_iconst (v := 1) (pc := 100) d_MO_stock_100 (by decide) ?_
        refine Ev_goto (tgt := 105) (pc := 101) d_MO_stock_101 rfl ?_
        have j := c_MO_stock_L50s_105 (E := E) (P := P) (h := h) (x1 := x1) (x2 := x2) (x3 := x3) (a := a) (c4 := c4) hR n2 k
        rw [m_MO_stock_L50s_105, if_pos q1, if_pos q11, if_pos q12] at j
        exact j
      · refine Ev_aload_n (pc := 89) d_MO_stock_89 rfl ?_
        refine Ev_getR (pc := 90) d_MO_stock_90 rfl rfl rfl fl_MO_16 (rf_MO_5 hR) ?_
        refine Ev_iload (pc := 93) d_MO_stock_93 rfl ?_
        refine Ev_ialdJ (pc := 95) d_MO_stock_95 rfl rfl (nIp (Nat.lt_of_lt_of_le n2 (by decide))) (nIc (Nat.lt_of_lt_of_le n2 (by decide))) n2 ?_
        refine Ev_iload_n (pc := 96) d_MO_stock_96 rfl ?_
        refine Ev_icmp_ne (tgt := 104) (pc := 97) d_MO_stock_97 rfl (fun q13 => ?_) (fun q13 => ?_)
        · refine Ev_iconst (v := 0) (pc := 104) d_MO_stock_104 (by decide) ?_
          have j := c_MO_stock_L50s_105 (E := E) (P := P) (h := h) (x1 := x1) (x2 := x2) (x3 := x3) (a := a) (c4 := c4) hR n2 k
          rw [m_MO_stock_L50s_105, if_pos q1, if_pos q11, if_neg q12, if_neg q13] at j
          exact j
        · refine Ev_iconst (v := 1) (pc := 100) d_MO_stock_100 (by decide) ?_
          refine Ev_goto (tgt := 105) (pc := 101) d_MO_stock_101 rfl ?_
          have j := c_MO_stock_L50s_105 (E := E) (P := P) (h := h) (x1 := x1) (x2 := x2) (x3 := x3) (a := a) (c4 := c4) hR n2 k
          rw [m_MO_stock_L50s_105, if_pos q1, if_pos q11, if_neg q12, if_pos q13] at j
          exact j
    · refine Ev_aload_n (pc := 74) d_MO_stock_74 rfl ?_
      refine Ev_getR (pc := 75) d_MO_stock_75 rfl rfl rfl fl_MO_13 (rf_MO_4 hR) ?_
      refine Ev_iload (pc := 78) d_MO_stock_78 rfl ?_
      refine Ev_ialdJ (pc := 80) d_MO_stock_80 rfl rfl (nIp (Nat.lt_of_lt_of_le n2 (by decide))) (nIc (Nat.lt_of_lt_of_le n2 (by decide))) n2 ?_
      refine Ev_iload_n (pc := 81) d_MO_stock_81 rfl ?_
      refine Ev_icmp_ne (tgt := 104) (pc := 82) d_MO_stock_82 rfl (fun q14 => ?_) (fun q14 => ?_)
      · refine Ev_iconst (v := 0) (pc := 104) d_MO_stock_104 (by decide) ?_
        have j := c_MO_stock_L50s_105 (E := E) (P := P) (h := h) (x1 := x1) (x2 := x2) (x3 := x3) (a := a) (c4 := c4) hR n2 k
        rw [m_MO_stock_L50s_105, if_pos q1, if_neg q11, if_neg q14] at j
        exact j
      · refine Ev_iload_n (pc := 85) d_MO_stock_85 rfl ?_
        refine Ev_if_lt (tgt := 100) (pc := 86) d_MO_stock_86 rfl (fun q15 => ?_) (fun q15 => ?_)
        · refine Ev_iconst (v := 1) (pc := 100) d_MO_stock_100 (by decide) ?_
          refine Ev_goto (tgt := 105) (pc := 101) d_MO_stock_101 rfl ?_
          have j := c_MO_stock_L50s_105 (E := E) (P := P) (h := h) (x1 := x1) (x2 := x2) (x3 := x3) (a := a) (c4 := c4) hR n2 k
          rw [m_MO_stock_L50s_105, if_pos q1, if_neg q11, if_pos q14, if_pos q15] at j
          exact j
        · refine Ev_aload_n (pc := 89) d_MO_stock_89 rfl ?_
          refine Ev_getR (pc := 90) d_MO_stock_90 rfl rfl rfl fl_MO_16 (rf_MO_5 hR) ?_
          refine Ev_iload (pc := 93) d_MO_stock_93 rfl ?_
          refine Ev_ialdJ (pc := 95) d_MO_stock_95 rfl rfl (nIp (Nat.lt_of_lt_of_le n2 (by decide))) (nIc (Nat.lt_of_lt_of_le n2 (by decide))) n2 ?_
          refine Ev_iload_n (pc := 96) d_MO_stock_96 rfl ?_
          refine Ev_icmp_ne (tgt := 104) (pc := 97) d_MO_stock_97 rfl (fun q16 => ?_) (fun q16 => ?_)
          · refine Ev_iconst (v := 0) (pc := 104) d_MO_stock_104 (by decide) ?_
            have j := c_MO_stock_L50s_105 (E := E) (P := P) (h := h) (x1 := x1) (x2 := x2) (x3 := x3) (a := a) (c4 := c4) hR n2 k
            rw [m_MO_stock_L50s_105, if_pos q1, if_neg q11, if_pos q14, if_neg q15, if_neg q16] at j
            exact j
          · refine Ev_iconst (v := 1) (pc := 100) d_MO_stock_100 (by decide) ?_
            refine Ev_goto (tgt := 105) (pc := 101) d_MO_stock_101 rfl ?_
            have j := c_MO_stock_L50s_105 (E := E) (P := P) (h := h) (x1 := x1) (x2 := x2) (x3 := x3) (a := a) (c4 := c4) hR n2 k
            rw [m_MO_stock_L50s_105, if_pos q1, if_neg q11, if_pos q14, if_neg q15, if_pos q16] at j
            exact j
def r_MO_stock_L50 (h : ev_H) (x1 : Int32) (x2 : Int32) (x3 : Int32) : Nat → Int32
  | 0 => 0
  | a + 1 => (m_MO_stock_L50s_130 h x1 x2 x3 a (r_MO_stock_L50 h x1 x2 x3 a))
theorem lp_MO_stock_L50 {E : ev_E} {P : Option ev_V ⊕ Nat → ev_H → Prop} {h : ev_H} {x1 : Int32} {x2 : Int32} {x3 : Int32} (n : Nat) (hn : n ≤ 48) (hb : (gI h 0 6 2) = nI n) (hR : rfs h) (k : Ev E M_MO_stock 50 [(0, vR 0 6), (1, vI x1), (2, vI x2), (3, vI x3), (4, vI (r_MO_stock_L50 h x1 x2 x3 n)), (5, vI (nI n))] [] h P) : Ev E M_MO_stock 50 [(0, vR 0 6), (1, vI x1), (2, vI x2), (3, vI x3), (4, vI 0), (5, vI 0)] [] h P := by
  refine Ev_for n (fun a => [(0, vR 0 6), (1, vI x1), (2, vI x2), (3, vI x3), (4, vI (r_MO_stock_L50 h x1 x2 x3 a)), (5, vI (nI a))]) (fun a => h) (fun a ha k => ?_) k
  have k2 : Ev E M_MO_stock 50 [(0, vR 0 6), (1, vI x1), (2, vI x2), (3, vI x3), (4, vI (r_MO_stock_L50 h x1 x2 x3 (a + 1))), (5, vI (nI (a + 1)))] [] h P := k
  rw [nI_succ] at k2
  exact c_MO_stock_L50s (by rw [hb]; exact nI_ge ha (Nat.lt_of_le_of_lt hn (by decide))) hR (Nat.lt_of_lt_of_le ha (Nat.le_trans hn (by decide))) k2
def m_MO_stock_33 (x1 : Int32) (x2 : Int32) (x3 : Int32) : Int32 := (if (f_MO_in x1 0 3) = 0 then 1 else (if (f_MO_in x2 (-1) 3) = 0 then 1 else (if (f_MO_in x3 (-1) 1) = 0 then 1 else 0)))
def f_MO_stock_33 (h : ev_H) (x1 : Int32) (x2 : Int32) (x3 : Int32) : Int32 × ev_H := ((if ((f_MO_refused h (m_MO_stock_33 x1 x2 x3) 0 0 0).1) = 0 then (r_MO_stock_L50 ((f_MO_refused h (m_MO_stock_33 x1 x2 x3) 0 0 0).2) x1 x2 x3 (gI ((f_MO_refused h (m_MO_stock_33 x1 x2 x3) 0 0 0).2) 0 6 2).toNatClampNeg) else 0), ((f_MO_refused h (m_MO_stock_33 x1 x2 x3) 0 0 0).2))
theorem c_MO_stock_33 {E : ev_E} {P : Option ev_V ⊕ Nat → ev_H → Prop} {h : ev_H} {x1 : Int32} {x2 : Int32} {x3 : Int32} (n0 : (gI h 0 6 2).toNatClampNeg ≤ 48) (n1 : (gI h 0 6 2) = nI (gI h 0 6 2).toNatClampNeg) (hR : rfs h) (k : P (.inl (some (vI (f_MO_stock_33 h x1 x2 x3).1))) (f_MO_stock_33 h x1 x2 x3).2) : Ev E M_MO_stock 33 [(0, vR 0 6), (1, vI x1), (2, vI x2), (3, vI x3)] [vI (m_MO_stock_33 x1 x2 x3), vR 0 6] h P := by
  refine Ev_iconst (v := 0) (pc := 33) d_MO_stock_33 (by decide) ?_
  refine Ev_iconst (v := 0) (pc := 34) d_MO_stock_34 (by decide) ?_
  refine Ev_iconst (v := 0) (pc := 35) d_MO_stock_35 (by decide) ?_
  refine Ev_callV (M' := M_MO_refused) (as := [vI (m_MO_stock_33 x1 x2 x3), vI 0, vI 0, vI 0]) (st := []) (a := 0) (i := 6) (pc := 36) d_MO_stock_36 rfl rfl rfl rfl rfl rfl rfl v_MO_refused lk_MO_85 rfl rfl (c_MO_refused  ?_)
  refine Ev_if_eq (tgt := 44) (pc := 39) d_MO_stock_39 rfl (fun q4 => ?_) (fun q4 => ?_)
  · refine Ev_iconst (v := 0) (pc := 44) d_MO_stock_44 (by decide) ?_
    refine Ev_istore (pc := 45) d_MO_stock_45 rfl ?_
    refine Ev_iconst (v := 0) (pc := 47) d_MO_stock_47 (by decide) ?_
    refine Ev_istore (pc := 48) d_MO_stock_48 rfl ?_
    refine lp_MO_stock_L50 ((gI ((f_MO_refused h (m_MO_stock_33 x1 x2 x3) 0 0 0).2) 0 6 2).toNatClampNeg) n0 n1 hR ?_
    refine Ev_iload (pc := 50) d_MO_stock_50 rfl ?_
    refine Ev_aload_n (pc := 52) d_MO_stock_52 rfl ?_
    refine Ev_getI (pc := 53) d_MO_stock_53 rfl rfl rfl fl_MO_74 ?_
    refine Ev_icmp_ge (tgt := 138) (pc := 56) d_MO_stock_56 rfl (fun _ => ?_) (fun q => absurd (lpx n1) q)
    refine Ev_iload (pc := 138) d_MO_stock_138 rfl ?_
    refine Ev_ireturn (pc := 140) d_MO_stock_140 rfl rfl ?_
    simp only [f_MO_stock_33, if_pos q4] at k
    exact k
  · refine Ev_iconst (v := 0) (pc := 42) d_MO_stock_42 (by decide) ?_
    refine Ev_ireturn (pc := 43) d_MO_stock_43 rfl rfl ?_
    simp only [f_MO_stock_33, if_neg q4] at k
    exact k
def f_MO_stock (h : ev_H) (x1 : Int32) (x2 : Int32) (x3 : Int32) : Int32 × ev_H := f_MO_stock_33 h x1 x2 x3
theorem c_MO_stock {E : ev_E} {P : Option ev_V ⊕ Nat → ev_H → Prop} {h : ev_H} {x1 : Int32} {x2 : Int32} {x3 : Int32} (n0 : (gI h 0 6 2).toNatClampNeg ≤ 48) (n1 : (gI h 0 6 2) = nI (gI h 0 6 2).toNatClampNeg) (hR : rfs h) (k : P (.inl (some (vI (f_MO_stock h x1 x2 x3).1))) (f_MO_stock h x1 x2 x3).2) : Ev E M_MO_stock 0 [(0, vR 0 6), (1, vI x1), (2, vI x2), (3, vI x3)] [] h P := by
  refine Ev_aload_n (pc := 0) d_MO_stock_0 rfl ?_
  refine Ev_iload_n (pc := 1) d_MO_stock_1 rfl ?_
  refine Ev_iconst (v := 0) (pc := 2) d_MO_stock_2 (by decide) ?_
  refine Ev_iconst (v := 3) (pc := 3) d_MO_stock_3 (by decide) ?_
  refine Ev_callS (M' := M_MO_in) (as := [vI x1, vI 0, vI 3]) (st := [vR 0 6]) (pc := 4) d_MO_stock_4 rfl rfl rfl s_MO_in lk_MO_77 rfl rfl (c_MO_in  ?_)
  refine Ev_if_eq (tgt := 28) (pc := 7) d_MO_stock_7 rfl (fun q1 => ?_) (fun q1 => ?_)
  · refine Ev_iconst (v := 1) (pc := 28) d_MO_stock_28 (by decide) ?_
    refine Ev_goto (tgt := 33) (pc := 29) d_MO_stock_29 rfl ?_
    rw [f_MO_stock] at k
    have j := c_MO_stock_33 (E := E) (P := P) (h := h) (x1 := x1) (x2 := x2) (x3 := x3) n0 n1 hR k
    rw [m_MO_stock_33, if_pos q1] at j
    exact j
  · refine Ev_iload_n (pc := 10) d_MO_stock_10 rfl ?_
    refine Ev_iconst (v := -1) (pc := 11) d_MO_stock_11 (by decide) ?_
    refine Ev_iconst (v := 3) (pc := 12) d_MO_stock_12 (by decide) ?_
    refine Ev_callS (M' := M_MO_in) (as := [vI x2, vI (-1), vI 3]) (st := [vR 0 6]) (pc := 13) d_MO_stock_13 rfl rfl rfl s_MO_in lk_MO_77 rfl rfl (c_MO_in  ?_)
    refine Ev_if_eq (tgt := 28) (pc := 16) d_MO_stock_16 rfl (fun q5 => ?_) (fun q5 => ?_)
    · refine Ev_iconst (v := 1) (pc := 28) d_MO_stock_28 (by decide) ?_
      refine Ev_goto (tgt := 33) (pc := 29) d_MO_stock_29 rfl ?_
      rw [f_MO_stock] at k
      have j := c_MO_stock_33 (E := E) (P := P) (h := h) (x1 := x1) (x2 := x2) (x3 := x3) n0 n1 hR k
      rw [m_MO_stock_33, if_neg q1, if_pos q5] at j
      exact j
    · refine Ev_iload_n (pc := 19) d_MO_stock_19 rfl ?_
      refine Ev_iconst (v := -1) (pc := 20) d_MO_stock_20 (by decide) ?_
      refine Ev_iconst (v := 1) (pc := 21) d_MO_stock_21 (by decide) ?_
      refine Ev_callS (M' := M_MO_in) (as := [vI x3, vI (-1), vI 1]) (st := [vR 0 6]) (pc := 22) d_MO_stock_22 rfl rfl rfl s_MO_in lk_MO_77 rfl rfl (c_MO_in  ?_)
      refine Ev_if_ne (tgt := 32) (pc := 25) d_MO_stock_25 rfl (fun q6 => ?_) (fun q6 => ?_)
      · refine Ev_iconst (v := 0) (pc := 32) d_MO_stock_32 (by decide) ?_
        rw [f_MO_stock] at k
        have j := c_MO_stock_33 (E := E) (P := P) (h := h) (x1 := x1) (x2 := x2) (x3 := x3) n0 n1 hR k
        rw [m_MO_stock_33, if_neg q1, if_neg q5, if_neg q6] at j
        exact j
      · refine Ev_iconst (v := 1) (pc := 28) d_MO_stock_28 (by decide) ?_
        refine Ev_goto (tgt := 33) (pc := 29) d_MO_stock_29 rfl ?_
        rw [f_MO_stock] at k
        have j := c_MO_stock_33 (E := E) (P := P) (h := h) (x1 := x1) (x2 := x2) (x3 := x3) n0 n1 hR k
        rw [m_MO_stock_33, if_neg q1, if_neg q5, if_pos q6] at j
        exact j
def m_MO_quarantine_L61s_105 (h : ev_H) (x1 : Int32) (x2 : Int32) (a : Nat) (c3 : Int32) : Int32 := (if (f_MO_isBarred h (nI a)) = 0 then c3 else (if (f_MO_stateOf h (nI a)) = 0 then c3 + 1 else (if (f_MO_stateOf h (nI a)) = 1 then c3 + 1 else c3)))
theorem c_MO_quarantine_L61s_105 {E : ev_E} {P : Option ev_V ⊕ Nat → ev_H → Prop} {h : ev_H} {x1 : Int32} {x2 : Int32} {a : Nat} {c3 : Int32} (k : Ev E M_MO_quarantine 61 [(0, vR 0 6), (1, vI x1), (2, vI x2), (3, vI (m_MO_quarantine_L61s_105 h x1 x2 a c3)), (4, vI ((nI a) + 1))] [] h P) : Ev E M_MO_quarantine 105 [(0, vR 0 6), (1, vI x1), (2, vI x2), (3, vI c3), (4, vI (nI a))] [vI (m_MO_quarantine_L61s_105 h x1 x2 a c3)] h P := by
  refine Ev_istore_n (pc := 105) d_MO_quarantine_105 rfl ?_
  refine Ev_iinc (d := 1) (pc := 106) d_MO_quarantine_106 rfl (by decide) rfl ?_
  refine Ev_goto (tgt := 61) (pc := 109) d_MO_quarantine_109 rfl ?_
  exact k
theorem c_MO_quarantine_L61s {E : ev_E} {P : Option ev_V ⊕ Nat → ev_H → Prop} {h : ev_H} {x1 : Int32} {x2 : Int32} {a : Nat} {c3 : Int32} (q0 : ¬ (gI h 0 6 2) ≤ (nI a)) (hR : rfs h) (n2 : a < 48) (k : Ev E M_MO_quarantine 61 [(0, vR 0 6), (1, vI x1), (2, vI x2), (3, vI (m_MO_quarantine_L61s_105 h x1 x2 a c3)), (4, vI ((nI a) + 1))] [] h P) : Ev E M_MO_quarantine 61 [(0, vR 0 6), (1, vI x1), (2, vI x2), (3, vI c3), (4, vI (nI a))] [] h P := by
  refine Ev_iload (pc := 61) d_MO_quarantine_61 rfl ?_
  refine Ev_aload_n (pc := 63) d_MO_quarantine_63 rfl ?_
  refine Ev_getI (pc := 64) d_MO_quarantine_64 rfl rfl rfl fl_MO_74 ?_
  refine Ev_icmp_ge (tgt := 112) (pc := 67) d_MO_quarantine_67 rfl (fun q => absurd q q0) (fun _ => ?_)
  refine Ev_aload_n (pc := 70) d_MO_quarantine_70 rfl ?_
  refine Ev_iload (pc := 71) d_MO_quarantine_71 rfl ?_
  refine Ev_callV (M' := M_MO_isBarred) (as := [vI (nI a)]) (st := []) (a := 0) (i := 6) (pc := 73) d_MO_quarantine_73 rfl rfl rfl rfl rfl rfl rfl v_MO_isBarred lk_MO_103 rfl rfl (c_MO_isBarred hR (nIp (Nat.lt_of_lt_of_le n2 (by decide))) (nIb n2) ?_)
  refine Ev_if_eq (tgt := 104) (pc := 76) d_MO_quarantine_76 rfl (fun q1 => ?_) (fun q1 => ?_)
  · refine Ev_iload_n (pc := 104) d_MO_quarantine_104 rfl ?_
    have j := c_MO_quarantine_L61s_105 (E := E) (P := P) (h := h) (x1 := x1) (x2 := x2) (a := a) (c3 := c3)  k
    rw [m_MO_quarantine_L61s_105, if_pos q1] at j
    exact j
  · refine Ev_aload_n (pc := 79) d_MO_quarantine_79 rfl ?_
    refine Ev_iload (pc := 80) d_MO_quarantine_80 rfl ?_
    refine Ev_callV (M' := M_MO_stateOf) (as := [vI (nI a)]) (st := []) (a := 0) (i := 6) (pc := 82) d_MO_quarantine_82 rfl rfl rfl rfl rfl rfl rfl v_MO_stateOf lk_MO_95 rfl rfl (c_MO_stateOf hR (nIp (Nat.lt_of_lt_of_le n2 (by decide))) (nIb n2) ?_)
    refine Ev_if_eq (tgt := 98) (pc := 85) d_MO_quarantine_85 rfl (fun q4 => ?_) (fun q4 => ?_)
    · refine Ev_iload_n (pc := 98) d_MO_quarantine_98 rfl ?_
      refine Ev_iconst (v := 1) (pc := 99) d_MO_quarantine_99 (by decide) ?_
      refine Ev_iadd (pc := 100) d_MO_quarantine_100 ?_
      refine Ev_goto (tgt := 105) (pc := 101) d_MO_quarantine_101 rfl ?_
      have j := c_MO_quarantine_L61s_105 (E := E) (P := P) (h := h) (x1 := x1) (x2 := x2) (a := a) (c3 := c3)  k
      rw [m_MO_quarantine_L61s_105, if_neg q1, if_pos q4] at j
      exact j
    · refine Ev_aload_n (pc := 88) d_MO_quarantine_88 rfl ?_
      refine Ev_iload (pc := 89) d_MO_quarantine_89 rfl ?_
      refine Ev_callV (M' := M_MO_stateOf) (as := [vI (nI a)]) (st := []) (a := 0) (i := 6) (pc := 91) d_MO_quarantine_91 rfl rfl rfl rfl rfl rfl rfl v_MO_stateOf lk_MO_95 rfl rfl (c_MO_stateOf hR (nIp (Nat.lt_of_lt_of_le n2 (by decide))) (nIb n2) ?_)
      refine Ev_iconst (v := 1) (pc := 94) d_MO_quarantine_94 (by decide) ?_
      refine Ev_icmp_ne (tgt := 104) (pc := 95) d_MO_quarantine_95 rfl (fun q5 => ?_) (fun q5 => ?_)
      · refine Ev_iload_n (pc := 104) d_MO_quarantine_104 rfl ?_
        have j := c_MO_quarantine_L61s_105 (E := E) (P := P) (h := h) (x1 := x1) (x2 := x2) (a := a) (c3 := c3)  k
        rw [m_MO_quarantine_L61s_105, if_neg q1, if_neg q4, if_neg q5] at j
        exact j
      · refine Ev_iload_n (pc := 98) d_MO_quarantine_98 rfl ?_
        refine Ev_iconst (v := 1) (pc := 99) d_MO_quarantine_99 (by decide) ?_
        refine Ev_iadd (pc := 100) d_MO_quarantine_100 ?_
        refine Ev_goto (tgt := 105) (pc := 101) d_MO_quarantine_101 rfl ?_
        have j := c_MO_quarantine_L61s_105 (E := E) (P := P) (h := h) (x1 := x1) (x2 := x2) (a := a) (c3 := c3)  k
        rw [m_MO_quarantine_L61s_105, if_neg q1, if_neg q4, if_pos q5] at j
        exact j
def r_MO_quarantine_L61 (h : ev_H) (x1 : Int32) (x2 : Int32) : Nat → Int32
  | 0 => 0
  | a + 1 => (m_MO_quarantine_L61s_105 h x1 x2 a (r_MO_quarantine_L61 h x1 x2 a))
theorem lp_MO_quarantine_L61 {E : ev_E} {P : Option ev_V ⊕ Nat → ev_H → Prop} {h : ev_H} {x1 : Int32} {x2 : Int32} (n : Nat) (hn : n ≤ 48) (hb : (gI h 0 6 2) = nI n) (hR : rfs h) (k : Ev E M_MO_quarantine 61 [(0, vR 0 6), (1, vI x1), (2, vI x2), (3, vI (r_MO_quarantine_L61 h x1 x2 n)), (4, vI (nI n))] [] h P) : Ev E M_MO_quarantine 61 [(0, vR 0 6), (1, vI x1), (2, vI x2), (3, vI 0), (4, vI 0)] [] h P := by
  refine Ev_for n (fun a => [(0, vR 0 6), (1, vI x1), (2, vI x2), (3, vI (r_MO_quarantine_L61 h x1 x2 a)), (4, vI (nI a))]) (fun a => h) (fun a ha k => ?_) k
  have k2 : Ev E M_MO_quarantine 61 [(0, vR 0 6), (1, vI x1), (2, vI x2), (3, vI (r_MO_quarantine_L61 h x1 x2 (a + 1))), (4, vI (nI (a + 1)))] [] h P := k
  rw [nI_succ] at k2
  exact c_MO_quarantine_L61s (by rw [hb]; exact nI_ge ha (Nat.lt_of_le_of_lt hn (by decide))) hR (Nat.lt_of_lt_of_le ha (Nat.le_trans hn (by decide))) k2
def m_MO_quarantine_16 (x1 : Int32) (x2 : Int32) : Int32 := (if (f_MO_in x1 0 15) = 0 then 1 else 0)
def m_MO_quarantine_53 (h : ev_H) (x1 : Int32) (x2 : Int32) : Int32 := (if x2 = 0 then (gI ((f_MO_refused h (m_MO_quarantine_16 x1 x2) 0 0 0).2) 0 6 18) &&& ((1 <<< (x1 &&& 31)) ^^^ (-1)) else (gI ((f_MO_refused h (m_MO_quarantine_16 x1 x2) 0 0 0).2) 0 6 18) ||| (1 <<< (x1 &&& 31)))
def f_MO_quarantine_53 (h : ev_H) (x1 : Int32) (x2 : Int32) : Int32 × ev_H := ((r_MO_quarantine_L61 (sI ((f_MO_refused h (m_MO_quarantine_16 x1 x2) 0 0 0).2) 0 6 18 (m_MO_quarantine_53 h x1 x2)) x1 x2 (gI (sI ((f_MO_refused h (m_MO_quarantine_16 x1 x2) 0 0 0).2) 0 6 18 (m_MO_quarantine_53 h x1 x2)) 0 6 2).toNatClampNeg), (sI ((f_MO_refused h (m_MO_quarantine_16 x1 x2) 0 0 0).2) 0 6 18 (m_MO_quarantine_53 h x1 x2)))
theorem c_MO_quarantine_53 {E : ev_E} {P : Option ev_V ⊕ Nat → ev_H → Prop} {h : ev_H} {x1 : Int32} {x2 : Int32} (n1 : (gI h 0 6 2).toNatClampNeg ≤ 48) (n2 : (gI h 0 6 2) = nI (gI h 0 6 2).toNatClampNeg) (hR : rfs h) (k : P (.inl (some (vI (f_MO_quarantine_53 h x1 x2).1))) (f_MO_quarantine_53 h x1 x2).2) : Ev E M_MO_quarantine 53 [(0, vR 0 6), (1, vI x1), (2, vI x2)] [vI (m_MO_quarantine_53 h x1 x2), vR 0 6] ((f_MO_refused h (m_MO_quarantine_16 x1 x2) 0 0 0).2) P := by
  refine Ev_putI (pc := 53) d_MO_quarantine_53 rfl rfl rfl fl_MO_92 rfl ?_
  refine Ev_iconst (v := 0) (pc := 56) d_MO_quarantine_56 (by decide) ?_
  refine Ev_istore_n (pc := 57) d_MO_quarantine_57 rfl ?_
  refine Ev_iconst (v := 0) (pc := 58) d_MO_quarantine_58 (by decide) ?_
  refine Ev_istore (pc := 59) d_MO_quarantine_59 rfl ?_
  refine lp_MO_quarantine_L61 ((gI (sI ((f_MO_refused h (m_MO_quarantine_16 x1 x2) 0 0 0).2) 0 6 18 (m_MO_quarantine_53 h x1 x2)) 0 6 2).toNatClampNeg) n1 n2 hR ?_
  refine Ev_iload (pc := 61) d_MO_quarantine_61 rfl ?_
  refine Ev_aload_n (pc := 63) d_MO_quarantine_63 rfl ?_
  refine Ev_getI (pc := 64) d_MO_quarantine_64 rfl rfl rfl fl_MO_74 ?_
  refine Ev_icmp_ge (tgt := 112) (pc := 67) d_MO_quarantine_67 rfl (fun _ => ?_) (fun q => absurd (lpx n2) q)
  refine Ev_iload_n (pc := 112) d_MO_quarantine_112 rfl ?_
  refine Ev_ireturn (pc := 113) d_MO_quarantine_113 rfl rfl ?_
  rw [f_MO_quarantine_53] at k
  exact k
def f_MO_quarantine_16 (h : ev_H) (x1 : Int32) (x2 : Int32) : Int32 × ev_H := ((if ((f_MO_refused h (m_MO_quarantine_16 x1 x2) 0 0 0).1) = 0 then (f_MO_quarantine_53 h x1 x2).1 else 0), (if ((f_MO_refused h (m_MO_quarantine_16 x1 x2) 0 0 0).1) = 0 then (f_MO_quarantine_53 h x1 x2).2 else ((f_MO_refused h (m_MO_quarantine_16 x1 x2) 0 0 0).2)))
theorem c_MO_quarantine_16 {E : ev_E} {P : Option ev_V ⊕ Nat → ev_H → Prop} {h : ev_H} {x1 : Int32} {x2 : Int32} (n0 : (gI h 0 6 2).toNatClampNeg ≤ 48) (n1 : (gI h 0 6 2) = nI (gI h 0 6 2).toNatClampNeg) (hR : rfs h) (k : P (.inl (some (vI (f_MO_quarantine_16 h x1 x2).1))) (f_MO_quarantine_16 h x1 x2).2) : Ev E M_MO_quarantine 16 [(0, vR 0 6), (1, vI x1), (2, vI x2)] [vI (m_MO_quarantine_16 x1 x2), vR 0 6] h P := by
  refine Ev_iconst (v := 0) (pc := 16) d_MO_quarantine_16 (by decide) ?_
  refine Ev_iconst (v := 0) (pc := 17) d_MO_quarantine_17 (by decide) ?_
  refine Ev_iconst (v := 0) (pc := 18) d_MO_quarantine_18 (by decide) ?_
  refine Ev_callV (M' := M_MO_refused) (as := [vI (m_MO_quarantine_16 x1 x2), vI 0, vI 0, vI 0]) (st := []) (a := 0) (i := 6) (pc := 19) d_MO_quarantine_19 rfl rfl rfl rfl rfl rfl rfl v_MO_refused lk_MO_85 rfl rfl (c_MO_refused  ?_)
  refine Ev_if_eq (tgt := 27) (pc := 22) d_MO_quarantine_22 rfl (fun q2 => ?_) (fun q2 => ?_)
  · refine Ev_aload_n (pc := 27) d_MO_quarantine_27 rfl ?_
    refine Ev_iload_n (pc := 28) d_MO_quarantine_28 rfl ?_
    refine Ev_if_eq (tgt := 43) (pc := 29) d_MO_quarantine_29 rfl (fun q3 => ?_) (fun q3 => ?_)
    · refine Ev_aload_n (pc := 43) d_MO_quarantine_43 rfl ?_
      refine Ev_getI (pc := 44) d_MO_quarantine_44 rfl rfl rfl fl_MO_92 ?_
      refine Ev_iconst (v := 1) (pc := 47) d_MO_quarantine_47 (by decide) ?_
      refine Ev_iload_n (pc := 48) d_MO_quarantine_48 rfl ?_
      refine Ev_ishl (pc := 49) d_MO_quarantine_49 ?_
      refine Ev_iconst (v := -1) (pc := 50) d_MO_quarantine_50 (by decide) ?_
      refine Ev_ixor (pc := 51) d_MO_quarantine_51 ?_
      refine Ev_iand (pc := 52) d_MO_quarantine_52 ?_
      simp only [f_MO_quarantine_16, if_pos q2] at k
      have j := c_MO_quarantine_53 (E := E) (P := P) (h := h) (x1 := x1) (x2 := x2) n0 n1 hR k
      rw [m_MO_quarantine_53, if_pos q3] at j
      exact j
    · refine Ev_aload_n (pc := 32) d_MO_quarantine_32 rfl ?_
      refine Ev_getI (pc := 33) d_MO_quarantine_33 rfl rfl rfl fl_MO_92 ?_
      refine Ev_iconst (v := 1) (pc := 36) d_MO_quarantine_36 (by decide) ?_
      refine Ev_iload_n (pc := 37) d_MO_quarantine_37 rfl ?_
      refine Ev_ishl (pc := 38) d_MO_quarantine_38 ?_
      refine Ev_ior (pc := 39) d_MO_quarantine_39 ?_
      refine Ev_goto (tgt := 53) (pc := 40) d_MO_quarantine_40 rfl ?_
      simp only [f_MO_quarantine_16, if_pos q2] at k
      have j := c_MO_quarantine_53 (E := E) (P := P) (h := h) (x1 := x1) (x2 := x2) n0 n1 hR k
      rw [m_MO_quarantine_53, if_neg q3] at j
      exact j
  · refine Ev_iconst (v := 0) (pc := 25) d_MO_quarantine_25 (by decide) ?_
    refine Ev_ireturn (pc := 26) d_MO_quarantine_26 rfl rfl ?_
    simp only [f_MO_quarantine_16, if_neg q2] at k
    exact k
def f_MO_quarantine (h : ev_H) (x1 : Int32) (x2 : Int32) : Int32 × ev_H := f_MO_quarantine_16 h x1 x2
theorem c_MO_quarantine {E : ev_E} {P : Option ev_V ⊕ Nat → ev_H → Prop} {h : ev_H} {x1 : Int32} {x2 : Int32} (n0 : (gI h 0 6 2).toNatClampNeg ≤ 48) (n1 : (gI h 0 6 2) = nI (gI h 0 6 2).toNatClampNeg) (hR : rfs h) (k : P (.inl (some (vI (f_MO_quarantine h x1 x2).1))) (f_MO_quarantine h x1 x2).2) : Ev E M_MO_quarantine 0 [(0, vR 0 6), (1, vI x1), (2, vI x2)] [] h P := by
  refine Ev_aload_n (pc := 0) d_MO_quarantine_0 rfl ?_
  refine Ev_iload_n (pc := 1) d_MO_quarantine_1 rfl ?_
  refine Ev_iconst (v := 0) (pc := 2) d_MO_quarantine_2 (by decide) ?_
  refine Ev_bipush (v := 15) (pc := 3) d_MO_quarantine_3 (by decide) ?_
  refine Ev_callS (M' := M_MO_in) (as := [vI x1, vI 0, vI 15]) (st := [vR 0 6]) (pc := 5) d_MO_quarantine_5 rfl rfl rfl s_MO_in lk_MO_77 rfl rfl (c_MO_in  ?_)
  refine Ev_if_ne (tgt := 15) (pc := 8) d_MO_quarantine_8 rfl (fun q1 => ?_) (fun q1 => ?_)
  · refine Ev_iconst (v := 0) (pc := 15) d_MO_quarantine_15 (by decide) ?_
    rw [f_MO_quarantine] at k
    have j := c_MO_quarantine_16 (E := E) (P := P) (h := h) (x1 := x1) (x2 := x2) n0 n1 hR k
    rw [m_MO_quarantine_16, if_neg q1] at j
    exact j
  · refine Ev_iconst (v := 1) (pc := 11) d_MO_quarantine_11 (by decide) ?_
    refine Ev_goto (tgt := 16) (pc := 12) d_MO_quarantine_12 rfl ?_
    rw [f_MO_quarantine] at k
    have j := c_MO_quarantine_16 (E := E) (P := P) (h := h) (x1 := x1) (x2 := x2) n0 n1 hR k
    rw [m_MO_quarantine_16, if_pos q1] at j
    exact j
def m_MO_firstIssue_L5s_55 (h : ev_H) (x1 : Int32) (x2 : Int32) (a : Nat) (c3 : Int32) : Int32 := (if (gI h 0 18 a) ≤ 0 then 0 else (if (gI h 0 16 a) = x1 then (if (((gI h 0 14 a) >>> (x2 &&& 31)) &&& 1) = 1 then 1 else 0) else 0))
def m_MO_firstIssue_L5s_88 (h : ev_H) (x1 : Int32) (x2 : Int32) (a : Nat) (c3 : Int32) : Int32 := (if (m_MO_firstIssue_L5s_55 h x1 x2 a c3) = 0 then c3 else (if c3 = 0 then gI h 0 18 a else (if c3 ≤ (gI h 0 18 a) then c3 else gI h 0 18 a)))
theorem c_MO_firstIssue_L5s_88 {E : ev_E} {P : Option ev_V ⊕ Nat → ev_H → Prop} {h : ev_H} {x1 : Int32} {x2 : Int32} {a : Nat} {c3 : Int32} (k : Ev E M_MO_firstIssue 5 [(0, vR 0 6), (1, vI x1), (2, vI x2), (3, vI (m_MO_firstIssue_L5s_88 h x1 x2 a c3)), (4, vI ((nI a) + 1))] [] h P) : Ev E M_MO_firstIssue 88 [(0, vR 0 6), (1, vI x1), (2, vI x2), (3, vI c3), (4, vI (nI a)), (5, vI (m_MO_firstIssue_L5s_55 h x1 x2 a c3))] [vI (m_MO_firstIssue_L5s_88 h x1 x2 a c3)] h P := by
  refine Ev_istore_n (pc := 88) d_MO_firstIssue_88 rfl ?_
  refine Ev_iinc (d := 1) (pc := 89) d_MO_firstIssue_89 rfl (by decide) rfl ?_
  refine Ev_goto (tgt := 5) (pc := 92) d_MO_firstIssue_92 rfl ?_
  refine Ev_sub (lsub ?_) k
  exact (And.intro rfl (And.intro rfl (And.intro rfl (And.intro rfl (And.intro rfl trivial)))))
theorem c_MO_firstIssue_L5s_55 {E : ev_E} {P : Option ev_V ⊕ Nat → ev_H → Prop} {h : ev_H} {x1 : Int32} {x2 : Int32} {a : Nat} {c3 : Int32} (hR : rfs h) (n1 : a < 48) (k : Ev E M_MO_firstIssue 5 [(0, vR 0 6), (1, vI x1), (2, vI x2), (3, vI (m_MO_firstIssue_L5s_88 h x1 x2 a c3)), (4, vI ((nI a) + 1))] [] h P) : Ev E M_MO_firstIssue 55 [(0, vR 0 6), (1, vI x1), (2, vI x2), (3, vI c3), (4, vI (nI a))] [vI (m_MO_firstIssue_L5s_55 h x1 x2 a c3)] h P := by
  refine Ev_istore (pc := 55) d_MO_firstIssue_55 rfl ?_
  refine Ev_iload (pc := 57) d_MO_firstIssue_57 rfl ?_
  refine Ev_if_eq (tgt := 87) (pc := 59) d_MO_firstIssue_59 rfl (fun q4 => ?_) (fun q4 => ?_)
  · refine Ev_iload_n (pc := 87) d_MO_firstIssue_87 rfl ?_
    have j := c_MO_firstIssue_L5s_88 (E := E) (P := P) (h := h) (x1 := x1) (x2 := x2) (a := a) (c3 := c3)  k
    rw [m_MO_firstIssue_L5s_88, if_pos q4] at j
    exact j
  · refine Ev_iload_n (pc := 62) d_MO_firstIssue_62 rfl ?_
    refine Ev_if_eq (tgt := 77) (pc := 63) d_MO_firstIssue_63 rfl (fun q7 => ?_) (fun q7 => ?_)
    · refine Ev_aload_n (pc := 77) d_MO_firstIssue_77 rfl ?_
      refine Ev_getR (pc := 78) d_MO_firstIssue_78 rfl rfl rfl fl_MO_43 (rf_MO_14 hR) ?_
      refine Ev_iload (pc := 81) d_MO_firstIssue_81 rfl ?_
      refine Ev_ialdJ (pc := 83) d_MO_firstIssue_83 rfl rfl (nIp (Nat.lt_of_lt_of_le n1 (by decide))) (nIc (Nat.lt_of_lt_of_le n1 (by decide))) n1 ?_
      refine Ev_goto (tgt := 88) (pc := 84) d_MO_firstIssue_84 rfl ?_
      have j := c_MO_firstIssue_L5s_88 (E := E) (P := P) (h := h) (x1 := x1) (x2 := x2) (a := a) (c3 := c3)  k
      rw [m_MO_firstIssue_L5s_88, if_neg q4, if_pos q7] at j
      exact j
    · refine Ev_aload_n (pc := 66) d_MO_firstIssue_66 rfl ?_
      refine Ev_getR (pc := 67) d_MO_firstIssue_67 rfl rfl rfl fl_MO_43 (rf_MO_14 hR) ?_
      refine Ev_iload (pc := 70) d_MO_firstIssue_70 rfl ?_
      refine Ev_ialdJ (pc := 72) d_MO_firstIssue_72 rfl rfl (nIp (Nat.lt_of_lt_of_le n1 (by decide))) (nIc (Nat.lt_of_lt_of_le n1 (by decide))) n1 ?_
      refine Ev_iload_n (pc := 73) d_MO_firstIssue_73 rfl ?_
      refine Ev_icmp_ge (tgt := 87) (pc := 74) d_MO_firstIssue_74 rfl (fun q8 => ?_) (fun q8 => ?_)
      · refine Ev_iload_n (pc := 87) d_MO_firstIssue_87 rfl ?_
        have j := c_MO_firstIssue_L5s_88 (E := E) (P := P) (h := h) (x1 := x1) (x2 := x2) (a := a) (c3 := c3)  k
        rw [m_MO_firstIssue_L5s_88, if_neg q4, if_neg q7, if_pos q8] at j
        exact j
      · refine Ev_aload_n (pc := 77) d_MO_firstIssue_77 rfl ?_
        refine Ev_getR (pc := 78) d_MO_firstIssue_78 rfl rfl rfl fl_MO_43 (rf_MO_14 hR) ?_
        refine Ev_iload (pc := 81) d_MO_firstIssue_81 rfl ?_
        refine Ev_ialdJ (pc := 83) d_MO_firstIssue_83 rfl rfl (nIp (Nat.lt_of_lt_of_le n1 (by decide))) (nIc (Nat.lt_of_lt_of_le n1 (by decide))) n1 ?_
        refine Ev_goto (tgt := 88) (pc := 84) d_MO_firstIssue_84 rfl ?_
        have j := c_MO_firstIssue_L5s_88 (E := E) (P := P) (h := h) (x1 := x1) (x2 := x2) (a := a) (c3 := c3)  k
        rw [m_MO_firstIssue_L5s_88, if_neg q4, if_neg q7, if_neg q8] at j
        exact j
theorem c_MO_firstIssue_L5s {E : ev_E} {P : Option ev_V ⊕ Nat → ev_H → Prop} {h : ev_H} {x1 : Int32} {x2 : Int32} {a : Nat} {c3 : Int32} (q0 : ¬ (gI h 0 6 2) ≤ (nI a)) (hR : rfs h) (n2 : a < 48) (k : Ev E M_MO_firstIssue 5 [(0, vR 0 6), (1, vI x1), (2, vI x2), (3, vI (m_MO_firstIssue_L5s_88 h x1 x2 a c3)), (4, vI ((nI a) + 1))] [] h P) : Ev E M_MO_firstIssue 5 [(0, vR 0 6), (1, vI x1), (2, vI x2), (3, vI c3), (4, vI (nI a))] [] h P := by
  refine Ev_iload (pc := 5) d_MO_firstIssue_5 rfl ?_
  refine Ev_aload_n (pc := 7) d_MO_firstIssue_7 rfl ?_
  refine Ev_getI (pc := 8) d_MO_firstIssue_8 rfl rfl rfl fl_MO_74 ?_
  refine Ev_icmp_ge (tgt := 95) (pc := 11) d_MO_firstIssue_11 rfl (fun q => absurd q q0) (fun _ => ?_)
  refine Ev_aload_n (pc := 14) d_MO_firstIssue_14 rfl ?_
  refine Ev_getR (pc := 15) d_MO_firstIssue_15 rfl rfl rfl fl_MO_43 (rf_MO_14 hR) ?_
  refine Ev_iload (pc := 18) d_MO_firstIssue_18 rfl ?_
  refine Ev_ialdJ (pc := 20) d_MO_firstIssue_20 rfl rfl (nIp (Nat.lt_of_lt_of_le n2 (by decide))) (nIc (Nat.lt_of_lt_of_le n2 (by decide))) n2 ?_
  refine Ev_if_le (tgt := 54) (pc := 21) d_MO_firstIssue_21 rfl (fun q1 => ?_) (fun q1 => ?_)
  · refine Ev_iconst (v := 0) (pc := 54) d_MO_firstIssue_54 (by decide) ?_
    have j := c_MO_firstIssue_L5s_55 (E := E) (P := P) (h := h) (x1 := x1) (x2 := x2) (a := a) (c3 := c3) hR n2 k
    rw [m_MO_firstIssue_L5s_55, if_pos q1] at j
    exact j
  · refine Ev_aload_n (pc := 24) d_MO_firstIssue_24 rfl ?_
    refine Ev_getR (pc := 25) d_MO_firstIssue_25 rfl rfl rfl fl_MO_37 (rf_MO_12 hR) ?_
    refine Ev_iload (pc := 28) d_MO_firstIssue_28 rfl ?_
    refine Ev_ialdJ (pc := 30) d_MO_firstIssue_30 rfl rfl (nIp (Nat.lt_of_lt_of_le n2 (by decide))) (nIc (Nat.lt_of_lt_of_le n2 (by decide))) n2 ?_
    refine Ev_iload_n (pc := 31) d_MO_firstIssue_31 rfl ?_
    refine Ev_icmp_ne (tgt := 54) (pc := 32) d_MO_firstIssue_32 rfl (fun q9 => ?_) (fun q9 => ?_)
    · refine Ev_iconst (v := 0) (pc := 54) d_MO_firstIssue_54 (by decide) ?_
      have j := c_MO_firstIssue_L5s_55 (E := E) (P := P) (h := h) (x1 := x1) (x2 := x2) (a := a) (c3 := c3) hR n2 k
      rw [m_MO_firstIssue_L5s_55, if_neg q1, if_neg q9] at j
      exact j
    · refine Ev_aload_n (pc := 35) d_MO_firstIssue_35 rfl ?_
      refine Ev_getR (pc := 36) d_MO_firstIssue_36 rfl rfl rfl fl_MO_31 (rf_MO_10 hR) ?_
      refine Ev_iload (pc := 39) d_MO_firstIssue_39 rfl ?_
      refine Ev_ialdJ (pc := 41) d_MO_firstIssue_41 rfl rfl (nIp (Nat.lt_of_lt_of_le n2 (by decide))) (nIc (Nat.lt_of_lt_of_le n2 (by decide))) n2 ?_
      refine Ev_iload_n (pc := 42) d_MO_firstIssue_42 rfl ?_
      refine Ev_ishr (pc := 43) d_MO_firstIssue_43 ?_
      refine Ev_iconst (v := 1) (pc := 44) d_MO_firstIssue_44 (by decide) ?_
      refine Ev_iand (pc := 45) d_MO_firstIssue_45 ?_
      refine Ev_iconst (v := 1) (pc := 46) d_MO_firstIssue_46 (by decide) ?_
      refine Ev_icmp_ne (tgt := 54) (pc := 47) d_MO_firstIssue_47 rfl (fun q10 => ?_) (fun q10 => ?_)
      · refine Ev_iconst (v := 0) (pc := 54) d_MO_firstIssue_54 (by decide) ?_
        have j := c_MO_firstIssue_L5s_55 (E := E) (P := P) (h := h) (x1 := x1) (x2 := x2) (a := a) (c3 := c3) hR n2 k
        rw [m_MO_firstIssue_L5s_55, if_neg q1, if_pos q9, if_neg q10] at j
        exact j
      · refine Ev_iconst (v := 1) (pc := 50) d_MO_firstIssue_50 (by decide) ?_
        refine Ev_goto (tgt := 55) (pc := 51) d_MO_firstIssue_51 rfl ?_
        have j := c_MO_firstIssue_L5s_55 (E := E) (P := P) (h := h) (x1 := x1) (x2 := x2) (a := a) (c3 := c3) hR n2 k
        rw [m_MO_firstIssue_L5s_55, if_neg q1, if_pos q9, if_pos q10] at j
        exact j
def r_MO_firstIssue_L5 (h : ev_H) (x1 : Int32) (x2 : Int32) : Nat → Int32
  | 0 => 0
  | a + 1 => (m_MO_firstIssue_L5s_88 h x1 x2 a (r_MO_firstIssue_L5 h x1 x2 a))
theorem lp_MO_firstIssue_L5 {E : ev_E} {P : Option ev_V ⊕ Nat → ev_H → Prop} {h : ev_H} {x1 : Int32} {x2 : Int32} (n : Nat) (hn : n ≤ 48) (hb : (gI h 0 6 2) = nI n) (hR : rfs h) (k : Ev E M_MO_firstIssue 5 [(0, vR 0 6), (1, vI x1), (2, vI x2), (3, vI (r_MO_firstIssue_L5 h x1 x2 n)), (4, vI (nI n))] [] h P) : Ev E M_MO_firstIssue 5 [(0, vR 0 6), (1, vI x1), (2, vI x2), (3, vI 0), (4, vI 0)] [] h P := by
  refine Ev_for n (fun a => [(0, vR 0 6), (1, vI x1), (2, vI x2), (3, vI (r_MO_firstIssue_L5 h x1 x2 a)), (4, vI (nI a))]) (fun a => h) (fun a ha k => ?_) k
  have k2 : Ev E M_MO_firstIssue 5 [(0, vR 0 6), (1, vI x1), (2, vI x2), (3, vI (r_MO_firstIssue_L5 h x1 x2 (a + 1))), (4, vI (nI (a + 1)))] [] h P := k
  rw [nI_succ] at k2
  exact c_MO_firstIssue_L5s (by rw [hb]; exact nI_ge ha (Nat.lt_of_le_of_lt hn (by decide))) hR (Nat.lt_of_lt_of_le ha (Nat.le_trans hn (by decide))) k2
def f_MO_firstIssue (h : ev_H) (x1 : Int32) (x2 : Int32) : Int32 := (r_MO_firstIssue_L5 h x1 x2 (gI h 0 6 2).toNatClampNeg)
theorem c_MO_firstIssue {E : ev_E} {P : Option ev_V ⊕ Nat → ev_H → Prop} {h : ev_H} {x1 : Int32} {x2 : Int32} (n0 : (gI h 0 6 2).toNatClampNeg ≤ 48) (n1 : (gI h 0 6 2) = nI (gI h 0 6 2).toNatClampNeg) (hR : rfs h) (k : P (.inl (some (vI (f_MO_firstIssue h x1 x2)))) h) : Ev E M_MO_firstIssue 0 [(0, vR 0 6), (1, vI x1), (2, vI x2)] [] h P := by
  refine Ev_iconst (v := 0) (pc := 0) d_MO_firstIssue_0 (by decide) ?_
  refine Ev_istore_n (pc := 1) d_MO_firstIssue_1 rfl ?_
  refine Ev_iconst (v := 0) (pc := 2) d_MO_firstIssue_2 (by decide) ?_
  refine Ev_istore (pc := 3) d_MO_firstIssue_3 rfl ?_
  refine lp_MO_firstIssue_L5 ((gI h 0 6 2).toNatClampNeg) n0 n1 hR ?_
  refine Ev_iload (pc := 5) d_MO_firstIssue_5 rfl ?_
  refine Ev_aload_n (pc := 7) d_MO_firstIssue_7 rfl ?_
  refine Ev_getI (pc := 8) d_MO_firstIssue_8 rfl rfl rfl fl_MO_74 ?_
  refine Ev_icmp_ge (tgt := 95) (pc := 11) d_MO_firstIssue_11 rfl (fun _ => ?_) (fun q => absurd (lpx n1) q)
  refine Ev_iload_n (pc := 95) d_MO_firstIssue_95 rfl ?_
  refine Ev_ireturn (pc := 96) d_MO_firstIssue_96 rfl rfl ?_
  rw [f_MO_firstIssue] at k
  exact k
def m_MO_go_L57s_96 (h : ev_H) (x1 : Int32) (x2 : Int32) (x3 : Int32) (a : Nat) (c4 : Int32) : Int32 := (if (gI h 0 18 a) ≤ 0 then c4 else (if (gI h 0 16 a) = x1 then c4 + 1 else c4))
theorem c_MO_go_L57s_96 {E : ev_E} {P : Option ev_V ⊕ Nat → ev_H → Prop} {h : ev_H} {x1 : Int32} {x2 : Int32} {x3 : Int32} {a : Nat} {c4 : Int32} (k : Ev E M_MO_go 57 [(0, vR 0 6), (1, vI x1), (2, vI x2), (3, vI x3), (4, vI (m_MO_go_L57s_96 h x1 x2 x3 a c4)), (5, vI ((nI a) + 1))] [] h P) : Ev E M_MO_go 96 [(0, vR 0 6), (1, vI x1), (2, vI x2), (3, vI x3), (4, vI c4), (5, vI (nI a))] [vI (m_MO_go_L57s_96 h x1 x2 x3 a c4)] h P := by
  refine Ev_istore (pc := 96) d_MO_go_96 rfl ?_
  refine Ev_iinc (d := 1) (pc := 98) d_MO_go_98 rfl (by decide) rfl ?_
  refine Ev_goto (tgt := 57) (pc := 101) d_MO_go_101 rfl ?_
  exact k
theorem c_MO_go_L57s {E : ev_E} {P : Option ev_V ⊕ Nat → ev_H → Prop} {h : ev_H} {x1 : Int32} {x2 : Int32} {x3 : Int32} {a : Nat} {c4 : Int32} (q0 : ¬ (gI h 0 6 2) ≤ (nI a)) (hR : rfs h) (n2 : a < 48) (k : Ev E M_MO_go 57 [(0, vR 0 6), (1, vI x1), (2, vI x2), (3, vI x3), (4, vI (m_MO_go_L57s_96 h x1 x2 x3 a c4)), (5, vI ((nI a) + 1))] [] h P) : Ev E M_MO_go 57 [(0, vR 0 6), (1, vI x1), (2, vI x2), (3, vI x3), (4, vI c4), (5, vI (nI a))] [] h P := by
  refine Ev_iload (pc := 57) d_MO_go_57 rfl ?_
  refine Ev_aload_n (pc := 59) d_MO_go_59 rfl ?_
  refine Ev_getI (pc := 60) d_MO_go_60 rfl rfl rfl fl_MO_74 ?_
  refine Ev_icmp_ge (tgt := 104) (pc := 63) d_MO_go_63 rfl (fun q => absurd q q0) (fun _ => ?_)
  refine Ev_aload_n (pc := 66) d_MO_go_66 rfl ?_
  refine Ev_getR (pc := 67) d_MO_go_67 rfl rfl rfl fl_MO_43 (rf_MO_14 hR) ?_
  refine Ev_iload (pc := 70) d_MO_go_70 rfl ?_
  refine Ev_ialdJ (pc := 72) d_MO_go_72 rfl rfl (nIp (Nat.lt_of_lt_of_le n2 (by decide))) (nIc (Nat.lt_of_lt_of_le n2 (by decide))) n2 ?_
  refine Ev_if_le (tgt := 94) (pc := 73) d_MO_go_73 rfl (fun q1 => ?_) (fun q1 => ?_)
  · refine Ev_iload (pc := 94) d_MO_go_94 rfl ?_
    have j := c_MO_go_L57s_96 (E := E) (P := P) (h := h) (x1 := x1) (x2 := x2) (x3 := x3) (a := a) (c4 := c4)  k
    rw [m_MO_go_L57s_96, if_pos q1] at j
    exact j
  · refine Ev_aload_n (pc := 76) d_MO_go_76 rfl ?_
    refine Ev_getR (pc := 77) d_MO_go_77 rfl rfl rfl fl_MO_37 (rf_MO_12 hR) ?_
    refine Ev_iload (pc := 80) d_MO_go_80 rfl ?_
    refine Ev_ialdJ (pc := 82) d_MO_go_82 rfl rfl (nIp (Nat.lt_of_lt_of_le n2 (by decide))) (nIc (Nat.lt_of_lt_of_le n2 (by decide))) n2 ?_
    refine Ev_iload_n (pc := 83) d_MO_go_83 rfl ?_
    refine Ev_icmp_ne (tgt := 94) (pc := 84) d_MO_go_84 rfl (fun q3 => ?_) (fun q3 => ?_)
    · refine Ev_iload (pc := 94) d_MO_go_94 rfl ?_
      have j := c_MO_go_L57s_96 (E := E) (P := P) (h := h) (x1 := x1) (x2 := x2) (x3 := x3) (a := a) (c4 := c4)  k
      rw [m_MO_go_L57s_96, if_neg q1, if_neg q3] at j
      exact j
    · refine Ev_iload (pc := 87) d_MO_go_87 rfl ?_
      refine Ev_iconst (v := 1) (pc := 89) d_MO_go_89 (by decide) ?_
      refine Ev_iadd (pc := 90) d_MO_go_90 ?_
      refine Ev_goto (tgt := 96) (pc := 91) d_MO_go_91 rfl ?_
      have j := c_MO_go_L57s_96 (E := E) (P := P) (h := h) (x1 := x1) (x2 := x2) (x3 := x3) (a := a) (c4 := c4)  k
      rw [m_MO_go_L57s_96, if_neg q1, if_pos q3] at j
      exact j
def r_MO_go_L57 (h : ev_H) (x1 : Int32) (x2 : Int32) (x3 : Int32) : Nat → Int32
  | 0 => 0
  | a + 1 => (m_MO_go_L57s_96 h x1 x2 x3 a (r_MO_go_L57 h x1 x2 x3 a))
theorem lp_MO_go_L57 {E : ev_E} {P : Option ev_V ⊕ Nat → ev_H → Prop} {h : ev_H} {x1 : Int32} {x2 : Int32} {x3 : Int32} (n : Nat) (hn : n ≤ 48) (hb : (gI h 0 6 2) = nI n) (hR : rfs h) (k : Ev E M_MO_go 57 [(0, vR 0 6), (1, vI x1), (2, vI x2), (3, vI x3), (4, vI (r_MO_go_L57 h x1 x2 x3 n)), (5, vI (nI n))] [] h P) : Ev E M_MO_go 57 [(0, vR 0 6), (1, vI x1), (2, vI x2), (3, vI x3), (4, vI 0), (5, vI 0)] [] h P := by
  refine Ev_for n (fun a => [(0, vR 0 6), (1, vI x1), (2, vI x2), (3, vI x3), (4, vI (r_MO_go_L57 h x1 x2 x3 a)), (5, vI (nI a))]) (fun a => h) (fun a ha k => ?_) k
  have k2 : Ev E M_MO_go 57 [(0, vR 0 6), (1, vI x1), (2, vI x2), (3, vI x3), (4, vI (r_MO_go_L57 h x1 x2 x3 (a + 1))), (5, vI (nI (a + 1)))] [] h P := k
  rw [nI_succ] at k2
  exact c_MO_go_L57s (by rw [hb]; exact nI_ge ha (Nat.lt_of_le_of_lt hn (by decide))) hR (Nat.lt_of_lt_of_le ha (Nat.le_trans hn (by decide))) k2
def hp_MO_go_24 (h : ev_H) (x1 : Int32) (x2 : Int32) (x3 : Int32) : ev_H := sI (sI (sI h 0 15 x2.toNatClampNeg 2) 0 16 x2.toNatClampNeg x1) 0 17 x2.toNatClampNeg (gI (sI (sI h 0 15 x2.toNatClampNeg 2) 0 16 x2.toNatClampNeg x1) 0 6 1)
def hp_MO_go_44 (h : ev_H) (x1 : Int32) (x2 : Int32) (x3 : Int32) : ev_H := sI (sI (hp_MO_go_24 h x1 x2 x3) 0 6 17 ((gI (hp_MO_go_24 h x1 x2 x3) 0 6 17) + 1)) 0 18 x2.toNatClampNeg (gI (sI (hp_MO_go_24 h x1 x2 x3) 0 6 17 ((gI (hp_MO_go_24 h x1 x2 x3) 0 6 17) + 1)) 0 6 17)
def f_MO_go (h : ev_H) (x1 : Int32) (x2 : Int32) (x3 : Int32) : Int32 × ev_H := ((r_MO_go_L57 (sI (hp_MO_go_44 h x1 x2 x3) 0 19 x2.toNatClampNeg x3) x1 x2 x3 (gI (sI (hp_MO_go_44 h x1 x2 x3) 0 19 x2.toNatClampNeg x3) 0 6 2).toNatClampNeg), (sI (hp_MO_go_44 h x1 x2 x3) 0 19 x2.toNatClampNeg x3))
theorem c_MO_go {E : ev_E} {P : Option ev_V ⊕ Nat → ev_H → Prop} {h : ev_H} {x1 : Int32} {x2 : Int32} {x3 : Int32} (hR : rfs h) (n1 : ¬ x2 < 0) (n2 : x2.toNatClampNeg < 48) (n3 : (gI h 0 6 2).toNatClampNeg ≤ 48) (n4 : (gI h 0 6 2) = nI (gI h 0 6 2).toNatClampNeg) (k : P (.inl (some (vI (f_MO_go h x1 x2 x3).1))) (f_MO_go h x1 x2 x3).2) : Ev E M_MO_go 0 [(0, vR 0 6), (1, vI x1), (2, vI x2), (3, vI x3)] [] h P := by
  refine Ev_aload_n (pc := 0) d_MO_go_0 rfl ?_
  refine Ev_getR (pc := 1) d_MO_go_1 rfl rfl rfl fl_MO_34 (rf_MO_11 hR) ?_
  refine Ev_iload_n (pc := 4) d_MO_go_4 rfl ?_
  refine Ev_iconst (v := 2) (pc := 5) d_MO_go_5 (by decide) ?_
  refine Ev_iast (pc := 6) d_MO_go_6 rfl rfl n1 n2 ?_
  refine Ev_aload_n (pc := 7) d_MO_go_7 rfl ?_
  refine Ev_getR (pc := 8) d_MO_go_8 rfl rfl rfl fl_MO_37 (rf_MO_12 hR) ?_
  refine Ev_iload_n (pc := 11) d_MO_go_11 rfl ?_
  refine Ev_iload_n (pc := 12) d_MO_go_12 rfl ?_
  refine Ev_iast (pc := 13) d_MO_go_13 rfl rfl n1 n2 ?_
  refine Ev_aload_n (pc := 14) d_MO_go_14 rfl ?_
  refine Ev_getR (pc := 15) d_MO_go_15 rfl rfl rfl fl_MO_40 (rf_MO_13 hR) ?_
  refine Ev_iload_n (pc := 18) d_MO_go_18 rfl ?_
  refine Ev_aload_n (pc := 19) d_MO_go_19 rfl ?_
  refine Ev_getI (pc := 20) d_MO_go_20 rfl rfl rfl fl_MO_89 ?_
  refine Ev_iast (pc := 23) d_MO_go_23 rfl rfl n1 n2 ?_
  show Ev E M_MO_go 24 [(0, vR 0 6), (1, vI x1), (2, vI x2), (3, vI x3)] [] (hp_MO_go_24 h x1 x2 x3) P
  refine Ev_aload_n (pc := 24) d_MO_go_24 rfl ?_
  refine Ev_dup (pc := 25) d_MO_go_25 rfl ?_
  refine Ev_getI (pc := 26) d_MO_go_26 rfl rfl rfl fl_MO_134 ?_
  refine Ev_iconst (v := 1) (pc := 29) d_MO_go_29 (by decide) ?_
  refine Ev_iadd (pc := 30) d_MO_go_30 ?_
  refine Ev_putI (pc := 31) d_MO_go_31 rfl rfl rfl fl_MO_134 rfl ?_
  refine Ev_aload_n (pc := 34) d_MO_go_34 rfl ?_
  refine Ev_getR (pc := 35) d_MO_go_35 rfl rfl rfl fl_MO_43 (rf_MO_14 hR) ?_
  refine Ev_iload_n (pc := 38) d_MO_go_38 rfl ?_
  refine Ev_aload_n (pc := 39) d_MO_go_39 rfl ?_
  refine Ev_getI (pc := 40) d_MO_go_40 rfl rfl rfl fl_MO_134 ?_
  refine Ev_iast (pc := 43) d_MO_go_43 rfl rfl n1 n2 ?_
  show Ev E M_MO_go 44 [(0, vR 0 6), (1, vI x1), (2, vI x2), (3, vI x3)] [] (hp_MO_go_44 h x1 x2 x3) P
  refine Ev_aload_n (pc := 44) d_MO_go_44 rfl ?_
  refine Ev_getR (pc := 45) d_MO_go_45 rfl rfl rfl fl_MO_46 (rf_MO_15 hR) ?_
  refine Ev_iload_n (pc := 48) d_MO_go_48 rfl ?_
  refine Ev_iload_n (pc := 49) d_MO_go_49 rfl ?_
  refine Ev_iast (pc := 50) d_MO_go_50 rfl rfl n1 n2 ?_
  refine Ev_iconst (v := 0) (pc := 51) d_MO_go_51 (by decide) ?_
  refine Ev_istore (pc := 52) d_MO_go_52 rfl ?_
  refine Ev_iconst (v := 0) (pc := 54) d_MO_go_54 (by decide) ?_
  refine Ev_istore (pc := 55) d_MO_go_55 rfl ?_
  refine lp_MO_go_L57 ((gI (sI (hp_MO_go_44 h x1 x2 x3) 0 19 x2.toNatClampNeg x3) 0 6 2).toNatClampNeg) n3 n4 hR ?_
  refine Ev_iload (pc := 57) d_MO_go_57 rfl ?_
  refine Ev_aload_n (pc := 59) d_MO_go_59 rfl ?_
  refine Ev_getI (pc := 60) d_MO_go_60 rfl rfl rfl fl_MO_74 ?_
  refine Ev_icmp_ge (tgt := 104) (pc := 63) d_MO_go_63 rfl (fun _ => ?_) (fun q => absurd (lpx n4) q)
  refine Ev_iload (pc := 104) d_MO_go_104 rfl ?_
  refine Ev_ireturn (pc := 106) d_MO_go_106 rfl rfl ?_
  rw [f_MO_go] at k
  exact k
def m_MO_offer_L56s_96 (h : ev_H) (x1 : Int32) (x2 : Int32) (x3 : Int32) (x4 : Int32) (a : Nat) (c5 : Int32) : Int32 := (if (f_MO_isOffered h x1 x2 (nI a)) = 0 then c5 else (if (f_MO_isBefore h (nI a) x4) = 0 then c5 else c5 + 1))
theorem c_MO_offer_L56s_96 {E : ev_E} {P : Option ev_V ⊕ Nat → ev_H → Prop} {h : ev_H} {x1 : Int32} {x2 : Int32} {x3 : Int32} {x4 : Int32} {a : Nat} {c5 : Int32} (k : Ev E M_MO_offer 56 [(0, vR 0 6), (1, vI x1), (2, vI x2), (3, vI x3), (4, vI x4), (5, vI (m_MO_offer_L56s_96 h x1 x2 x3 x4 a c5)), (6, vI ((nI a) + 1))] [] h P) : Ev E M_MO_offer 96 [(0, vR 0 6), (1, vI x1), (2, vI x2), (3, vI x3), (4, vI x4), (5, vI c5), (6, vI (nI a))] [vI (m_MO_offer_L56s_96 h x1 x2 x3 x4 a c5)] h P := by
  refine Ev_istore (pc := 96) d_MO_offer_96 rfl ?_
  refine Ev_iinc (d := 1) (pc := 98) d_MO_offer_98 rfl (by decide) rfl ?_
  refine Ev_goto (tgt := 56) (pc := 101) d_MO_offer_101 rfl ?_
  exact k
theorem c_MO_offer_L56s {E : ev_E} {P : Option ev_V ⊕ Nat → ev_H → Prop} {h : ev_H} {x1 : Int32} {x2 : Int32} {x3 : Int32} {x4 : Int32} {a : Nat} {c5 : Int32} (q0 : ¬ (gI h 0 6 2) ≤ (nI a)) (hR : rfs h) (n2 : a < 48) (n3 : ¬ x1 < 0) (n4 : x1.toNatClampNeg < 10) (n5 : ¬ x4 < 0) (n6 : x4.toNatClampNeg < 48) (k : Ev E M_MO_offer 56 [(0, vR 0 6), (1, vI x1), (2, vI x2), (3, vI x3), (4, vI x4), (5, vI (m_MO_offer_L56s_96 h x1 x2 x3 x4 a c5)), (6, vI ((nI a) + 1))] [] h P) : Ev E M_MO_offer 56 [(0, vR 0 6), (1, vI x1), (2, vI x2), (3, vI x3), (4, vI x4), (5, vI c5), (6, vI (nI a))] [] h P := by
  refine Ev_iload (pc := 56) d_MO_offer_56 rfl ?_
  refine Ev_aload_n (pc := 58) d_MO_offer_58 rfl ?_
  refine Ev_getI (pc := 59) d_MO_offer_59 rfl rfl rfl fl_MO_74 ?_
  refine Ev_icmp_ge (tgt := 104) (pc := 62) d_MO_offer_62 rfl (fun q => absurd q q0) (fun _ => ?_)
  refine Ev_aload_n (pc := 65) d_MO_offer_65 rfl ?_
  refine Ev_iload_n (pc := 66) d_MO_offer_66 rfl ?_
  refine Ev_iload_n (pc := 67) d_MO_offer_67 rfl ?_
  refine Ev_iload (pc := 68) d_MO_offer_68 rfl ?_
  refine Ev_callV (M' := M_MO_isOffered) (as := [vI x1, vI x2, vI (nI a)]) (st := []) (a := 0) (i := 6) (pc := 70) d_MO_offer_70 rfl rfl rfl rfl rfl rfl rfl v_MO_isOffered lk_MO_147 rfl rfl (c_MO_isOffered hR (nIp (Nat.lt_of_lt_of_le n2 (by decide))) (nIb n2) n3 n4 ?_)
  refine Ev_if_eq (tgt := 94) (pc := 73) d_MO_offer_73 rfl (fun q1 => ?_) (fun q1 => ?_)
  · refine Ev_iload (pc := 94) d_MO_offer_94 rfl ?_
    have j := c_MO_offer_L56s_96 (E := E) (P := P) (h := h) (x1 := x1) (x2 := x2) (x3 := x3) (x4 := x4) (a := a) (c5 := c5)  k
    rw [m_MO_offer_L56s_96, if_pos q1] at j
    exact j
  · refine Ev_aload_n (pc := 76) d_MO_offer_76 rfl ?_
    refine Ev_iload (pc := 77) d_MO_offer_77 rfl ?_
    refine Ev_iload (pc := 79) d_MO_offer_79 rfl ?_
    refine Ev_callV (M' := M_MO_isBefore) (as := [vI (nI a), vI x4]) (st := []) (a := 0) (i := 6) (pc := 81) d_MO_offer_81 rfl rfl rfl rfl rfl rfl rfl v_MO_isBefore lk_MO_150 rfl rfl (c_MO_isBefore hR (nIp (Nat.lt_of_lt_of_le n2 (by decide))) (nIb n2) n5 n6 ?_)
    refine Ev_if_eq (tgt := 94) (pc := 84) d_MO_offer_84 rfl (fun q3 => ?_) (fun q3 => ?_)
    · refine Ev_iload (pc := 94) d_MO_offer_94 rfl ?_
      have j := c_MO_offer_L56s_96 (E := E) (P := P) (h := h) (x1 := x1) (x2 := x2) (x3 := x3) (x4 := x4) (a := a) (c5 := c5)  k
      rw [m_MO_offer_L56s_96, if_neg q1, if_pos q3] at j
      exact j
    · refine Ev_iload (pc := 87) d_MO_offer_87 rfl ?_
      refine Ev_iconst (v := 1) (pc := 89) d_MO_offer_89 (by decide) ?_
      refine Ev_iadd (pc := 90) d_MO_offer_90 ?_
      refine Ev_goto (tgt := 96) (pc := 91) d_MO_offer_91 rfl ?_
      have j := c_MO_offer_L56s_96 (E := E) (P := P) (h := h) (x1 := x1) (x2 := x2) (x3 := x3) (x4 := x4) (a := a) (c5 := c5)  k
      rw [m_MO_offer_L56s_96, if_neg q1, if_neg q3] at j
      exact j
def r_MO_offer_L56 (h : ev_H) (x1 : Int32) (x2 : Int32) (x3 : Int32) (x4 : Int32) : Nat → Int32
  | 0 => 0
  | a + 1 => (m_MO_offer_L56s_96 h x1 x2 x3 x4 a (r_MO_offer_L56 h x1 x2 x3 x4 a))
theorem lp_MO_offer_L56 {E : ev_E} {P : Option ev_V ⊕ Nat → ev_H → Prop} {h : ev_H} {x1 : Int32} {x2 : Int32} {x3 : Int32} {x4 : Int32} (n : Nat) (hn : n ≤ 48) (hb : (gI h 0 6 2) = nI n) (hR : rfs h) (n3 : ¬ x1 < 0) (n4 : x1.toNatClampNeg < 10) (n5 : ¬ x4 < 0) (n6 : x4.toNatClampNeg < 48) (k : Ev E M_MO_offer 56 [(0, vR 0 6), (1, vI x1), (2, vI x2), (3, vI x3), (4, vI x4), (5, vI (r_MO_offer_L56 h x1 x2 x3 x4 n)), (6, vI (nI n))] [] h P) : Ev E M_MO_offer 56 [(0, vR 0 6), (1, vI x1), (2, vI x2), (3, vI x3), (4, vI x4), (5, vI 0), (6, vI 0)] [] h P := by
  refine Ev_for n (fun a => [(0, vR 0 6), (1, vI x1), (2, vI x2), (3, vI x3), (4, vI x4), (5, vI (r_MO_offer_L56 h x1 x2 x3 x4 a)), (6, vI (nI a))]) (fun a => h) (fun a ha k => ?_) k
  have k2 : Ev E M_MO_offer 56 [(0, vR 0 6), (1, vI x1), (2, vI x2), (3, vI x3), (4, vI x4), (5, vI (r_MO_offer_L56 h x1 x2 x3 x4 (a + 1))), (6, vI (nI (a + 1)))] [] h P := k
  rw [nI_succ] at k2
  exact c_MO_offer_L56s (by rw [hb]; exact nI_ge ha (Nat.lt_of_le_of_lt hn (by decide))) hR (Nat.lt_of_lt_of_le ha (Nat.le_trans hn (by decide))) n3 n4 n5 n6 k2
theorem c_MO_offer_O41s {E : ev_E} {P : Option ev_V ⊕ Nat → ev_H → Prop} {h : ev_H} {x1 : Int32} {x2 : Int32} {x3 : Int32} {a : Nat} (q0 : ¬ (gI h 0 6 2) ≤ (nI a)) (n1 : (gI h 0 6 2).toNatClampNeg ≤ 48) (n2 : (gI h 0 6 2) = nI (gI h 0 6 2).toNatClampNeg) (hR : rfs h) (n4 : ¬ x1 < 0) (n5 : x1.toNatClampNeg < 10) (n6 : a < 48) (k : (((r_MO_offer_L56 h x1 x2 x3 (nI a) (gI h 0 6 2).toNatClampNeg) = x3) → ¬ ((f_MO_isOffered h x1 x2 (nI a)) = 0) → False) → Ev E M_MO_offer 41 [(0, vR 0 6), (1, vI x1), (2, vI x2), (3, vI x3), (4, vI ((nI a) + 1))] [] h P) (kr : ((r_MO_offer_L56 h x1 x2 x3 (nI a) (gI h 0 6 2).toNatClampNeg) = x3) → ¬ ((f_MO_isOffered h x1 x2 (nI a)) = 0) → P (.inl (some (vI (nI a)))) h) : Ev E M_MO_offer 41 [(0, vR 0 6), (1, vI x1), (2, vI x2), (3, vI x3), (4, vI (nI a))] [] h P := by
  refine Ev_iload (pc := 41) d_MO_offer_41 rfl ?_
  refine Ev_aload_n (pc := 43) d_MO_offer_43 rfl ?_
  refine Ev_getI (pc := 44) d_MO_offer_44 rfl rfl rfl fl_MO_74 ?_
  refine Ev_icmp_ge (tgt := 130) (pc := 47) d_MO_offer_47 rfl (fun q => absurd q q0) (fun _ => ?_)
  refine Ev_iconst (v := 0) (pc := 50) d_MO_offer_50 (by decide) ?_
  refine Ev_istore (pc := 51) d_MO_offer_51 rfl ?_
  refine Ev_iconst (v := 0) (pc := 53) d_MO_offer_53 (by decide) ?_
  refine Ev_istore (pc := 54) d_MO_offer_54 rfl ?_
  refine lp_MO_offer_L56 ((gI h 0 6 2).toNatClampNeg) n1 n2 hR n4 n5 (nIp (Nat.lt_of_lt_of_le n6 (by decide))) (nIb n6) ?_
  refine Ev_iload (pc := 56) d_MO_offer_56 rfl ?_
  refine Ev_aload_n (pc := 58) d_MO_offer_58 rfl ?_
  refine Ev_getI (pc := 59) d_MO_offer_59 rfl rfl rfl fl_MO_74 ?_
  refine Ev_icmp_ge (tgt := 104) (pc := 62) d_MO_offer_62 rfl (fun _ => ?_) (fun q => absurd (lpx n2) q)
  refine Ev_iload (pc := 104) d_MO_offer_104 rfl ?_
  refine Ev_iload_n (pc := 106) d_MO_offer_106 rfl ?_
  refine Ev_icmp_ne (tgt := 124) (pc := 107) d_MO_offer_107 rfl (fun q1 => ?_) (fun q1 => ?_)
  · refine Ev_iinc (d := 1) (pc := 124) d_MO_offer_124 rfl (by decide) rfl ?_
    refine Ev_goto (tgt := 41) (pc := 127) d_MO_offer_127 rfl ?_
    refine Ev_sub (lsub ?_) (k (fun z0 z1 => absurd z0 q1))
    exact (And.intro rfl (And.intro rfl (And.intro rfl (And.intro rfl (And.intro rfl trivial)))))
  · refine Ev_aload_n (pc := 110) d_MO_offer_110 rfl ?_
    refine Ev_iload_n (pc := 111) d_MO_offer_111 rfl ?_
    refine Ev_iload_n (pc := 112) d_MO_offer_112 rfl ?_
    refine Ev_iload (pc := 113) d_MO_offer_113 rfl ?_
    refine Ev_callV (M' := M_MO_isOffered) (as := [vI x1, vI x2, vI (nI a)]) (st := []) (a := 0) (i := 6) (pc := 115) d_MO_offer_115 rfl rfl rfl rfl rfl rfl rfl v_MO_isOffered lk_MO_147 rfl rfl (c_MO_isOffered hR (nIp (Nat.lt_of_lt_of_le n6 (by decide))) (nIb n6) n4 n5 ?_)
    refine Ev_if_eq (tgt := 124) (pc := 118) d_MO_offer_118 rfl (fun q2 => ?_) (fun q2 => ?_)
    · refine Ev_iinc (d := 1) (pc := 124) d_MO_offer_124 rfl (by decide) rfl ?_
      refine Ev_goto (tgt := 41) (pc := 127) d_MO_offer_127 rfl ?_
      refine Ev_sub (lsub ?_) (k (fun z0 z1 => absurd q2 z1))
      exact (And.intro rfl (And.intro rfl (And.intro rfl (And.intro rfl (And.intro rfl trivial)))))
    · refine Ev_iload (pc := 121) d_MO_offer_121 rfl ?_
      refine Ev_ireturn (pc := 123) d_MO_offer_123 rfl rfl ?_
      exact kr q1 q2
theorem c_MO_offer_O41f {E : ev_E} {P : Option ev_V ⊕ Nat → ev_H → Prop} {h : ev_H} {x1 : Int32} {x2 : Int32} {x3 : Int32} {n : Nat} (q0 : (gI h 0 6 2) ≤ (nI n)) (k : P (.inl (some (vI (-1)))) h) : Ev E M_MO_offer 41 [(0, vR 0 6), (1, vI x1), (2, vI x2), (3, vI x3), (4, vI (nI n))] [] h P := by
  refine Ev_iload (pc := 41) d_MO_offer_41 rfl ?_
  refine Ev_aload_n (pc := 43) d_MO_offer_43 rfl ?_
  refine Ev_getI (pc := 44) d_MO_offer_44 rfl rfl rfl fl_MO_74 ?_
  refine Ev_icmp_ge (tgt := 130) (pc := 47) d_MO_offer_47 rfl (fun _ => ?_) (fun q => absurd q0 q)
  refine Ev_iconst (v := -1) (pc := 130) d_MO_offer_130 (by decide) ?_
  refine Ev_ireturn (pc := 131) d_MO_offer_131 rfl rfl ?_
  exact k
def res_MO_offer_O41_c (h : ev_H) (x1 : Int32) (x2 : Int32) (x3 : Int32) (a : Nat) : Prop := ((r_MO_offer_L56 h x1 x2 x3 (nI a) (gI h 0 6 2).toNatClampNeg) = x3) ∧ ¬ ((f_MO_isOffered h x1 x2 (nI a)) = 0)
noncomputable def res_MO_offer_O41 (h : ev_H) (x1 : Int32) (x2 : Int32) (x3 : Int32) (n : Nat) : Nat → Int32
  | 0 => -1
  | d + 1 => @ite _ (res_MO_offer_O41_c h x1 x2 x3 (n - (d + 1))) (Classical.propDecidable _) (nI (n - (d + 1))) (res_MO_offer_O41 h x1 x2 x3 n d)
theorem lp_MO_offer_O41 {E : ev_E} {P : Option ev_V ⊕ Nat → ev_H → Prop} {h : ev_H} {x1 : Int32} {x2 : Int32} {x3 : Int32} (n : Nat) (hn : n ≤ 48) (hb : (gI h 0 6 2) = nI n) (n1 : (gI h 0 6 2).toNatClampNeg ≤ 48) (n2 : (gI h 0 6 2) = nI (gI h 0 6 2).toNatClampNeg) (hR : rfs h) (n4 : ¬ x1 < 0) (n5 : x1.toNatClampNeg < 10) : ∀ d, d ≤ n → P (.inl (some (vI (res_MO_offer_O41 h x1 x2 x3 n d)))) h → Ev E M_MO_offer 41 [(0, vR 0 6), (1, vI x1), (2, vI x2), (3, vI x3), (4, vI (nI (n - d)))] [] h P := by
  intro d
  induction d with
  | zero => exact fun _ k => c_MO_offer_O41f (lpx hb) k
  | succ d ih =>
    intro hd k
    have ha : n - (d + 1) < n := by omega
    have e1 : nI (n - d) = nI (n - (d + 1)) + 1 := by rw [← nI_succ]; congr 1; omega
    by_cases hc : res_MO_offer_O41_c h x1 x2 x3 (n - (d + 1))
    · rw [res_MO_offer_O41, if_pos hc] at k
      refine c_MO_offer_O41s (by rw [hb]; exact nI_ge ha (Nat.lt_of_le_of_lt hn (by decide))) n1 n2 hR n4 n5 (Nat.lt_of_lt_of_le ha (Nat.le_trans hn (by decide))) (fun z => ?_) (fun _ _ => k)
      unfold res_MO_offer_O41_c at hc
      exact (z hc.1 hc.2).elim
    · rw [res_MO_offer_O41, if_neg hc] at k
      refine c_MO_offer_O41s (by rw [hb]; exact nI_ge ha (Nat.lt_of_le_of_lt hn (by decide))) n1 n2 hR n4 n5 (Nat.lt_of_lt_of_le ha (Nat.le_trans hn (by decide))) (fun _ => ?_) (fun z0 z1 => absurd (show res_MO_offer_O41_c h x1 x2 x3 (n - (d + 1)) from ⟨z0, z1⟩) hc)
      have k2 := ih (by omega) k
      rw [e1] at k2
      exact k2
theorem lq_MO_offer_O41 {E : ev_E} {P : Option ev_V ⊕ Nat → ev_H → Prop} {h : ev_H} {x1 : Int32} {x2 : Int32} {x3 : Int32} (n : Nat) (hn : n ≤ 48) (hb : (gI h 0 6 2) = nI n) (n1 : (gI h 0 6 2).toNatClampNeg ≤ 48) (n2 : (gI h 0 6 2) = nI (gI h 0 6 2).toNatClampNeg) (hR : rfs h) (n4 : ¬ x1 < 0) (n5 : x1.toNatClampNeg < 10) (k : P (.inl (some (vI (res_MO_offer_O41 h x1 x2 x3 n n)))) h) : Ev E M_MO_offer 41 [(0, vR 0 6), (1, vI x1), (2, vI x2), (3, vI x3), (4, vI 0)] [] h P := by
  have k2 := lp_MO_offer_O41 (E := E) (P := P) n hn hb n1 n2 hR n4 n5 n (Nat.le_refl _) k
  rw [Nat.sub_self] at k2
  exact k2
def m_MO_offer_1_28 (x1 : Int32) (x2 : Int32) (x3 : Int32) : Int32 := (if (f_MO_in x2 0 3) = 0 then 1 else 0)
noncomputable def f_MO_offer_1_28 (h : ev_H) (x1 : Int32) (x2 : Int32) (x3 : Int32) : Int32 × ev_H := ((if ((f_MO_refused h 0 (m_MO_offer_1_28 x1 x2 x3) 0 0).1) = 0 then (res_MO_offer_O41 ((f_MO_refused h 0 (m_MO_offer_1_28 x1 x2 x3) 0 0).2) x1 x2 x3 (gI ((f_MO_refused h 0 (m_MO_offer_1_28 x1 x2 x3) 0 0).2) 0 6 2).toNatClampNeg (gI ((f_MO_refused h 0 (m_MO_offer_1_28 x1 x2 x3) 0 0).2) 0 6 2).toNatClampNeg) else 0), ((f_MO_refused h 0 (m_MO_offer_1_28 x1 x2 x3) 0 0).2))
theorem c_MO_offer_1_28 {E : ev_E} {P : Option ev_V ⊕ Nat → ev_H → Prop} {h : ev_H} {x1 : Int32} {x2 : Int32} {x3 : Int32} (n0 : (gI h 0 6 2).toNatClampNeg ≤ 48) (n1 : (gI h 0 6 2) = nI (gI h 0 6 2).toNatClampNeg) (hR : rfs h) (n3 : ¬ x1 < 0) (n4 : x1.toNatClampNeg < 10) (k : P (.inl (some (vI (f_MO_offer_1_28 h x1 x2 x3).1))) (f_MO_offer_1_28 h x1 x2 x3).2) : Ev E M_MO_offer 28 [(0, vR 0 6), (1, vI x1), (2, vI x2), (3, vI x3)] [vI (m_MO_offer_1_28 x1 x2 x3), vI 0, vR 0 6] h P := by
  refine Ev_iconst (v := 0) (pc := 28) d_MO_offer_28 (by decide) ?_
  refine Ev_iconst (v := 0) (pc := 29) d_MO_offer_29 (by decide) ?_
  refine Ev_callV (M' := M_MO_refused) (as := [vI 0, vI (m_MO_offer_1_28 x1 x2 x3), vI 0, vI 0]) (st := []) (a := 0) (i := 6) (pc := 30) d_MO_offer_30 rfl rfl rfl rfl rfl rfl rfl v_MO_refused lk_MO_85 rfl rfl (c_MO_refused  ?_)
  refine Ev_if_eq (tgt := 38) (pc := 33) d_MO_offer_33 rfl (fun q2 => ?_) (fun q2 => ?_)
  · refine Ev_iconst (v := 0) (pc := 38) d_MO_offer_38 (by decide) ?_
    refine Ev_istore (pc := 39) d_MO_offer_39 rfl ?_
    refine lq_MO_offer_O41 ((gI ((f_MO_refused h 0 (m_MO_offer_1_28 x1 x2 x3) 0 0).2) 0 6 2).toNatClampNeg) n0 n1 n0 n1 hR n3 n4 ?_
    simp only [f_MO_offer_1_28, if_pos q2] at k
    exact k
  · refine Ev_iconst (v := 0) (pc := 36) d_MO_offer_36 (by decide) ?_
    refine Ev_ireturn (pc := 37) d_MO_offer_37 rfl rfl ?_
    simp only [f_MO_offer_1_28, if_neg q2] at k
    exact k
noncomputable def f_MO_offer_1 (h : ev_H) (x1 : Int32) (x2 : Int32) (x3 : Int32) : Int32 × ev_H := f_MO_offer_1_28 h x1 x2 x3
theorem c_MO_offer_1 {E : ev_E} {P : Option ev_V ⊕ Nat → ev_H → Prop} {h : ev_H} {x1 : Int32} {x2 : Int32} {x3 : Int32} (v0 : f_MO_isPatient h x1 = 1) (n1 : (gI h 0 6 2).toNatClampNeg ≤ 48) (n2 : (gI h 0 6 2) = nI (gI h 0 6 2).toNatClampNeg) (hR : rfs h) (n4 : ¬ x1 < 0) (n5 : x1.toNatClampNeg < 10) (k : P (.inl (some (vI (f_MO_offer_1 h x1 x2 x3).1))) (f_MO_offer_1 h x1 x2 x3).2) : Ev E M_MO_offer 0 [(0, vR 0 6), (1, vI x1), (2, vI x2), (3, vI x3)] [] h P := by
  refine Ev_aload_n (pc := 0) d_MO_offer_0 rfl ?_
  refine Ev_aload_n (pc := 1) d_MO_offer_1 rfl ?_
  refine Ev_iload_n (pc := 2) d_MO_offer_2 rfl ?_
  refine Ev_callV (M' := M_MO_isPatient) (as := [vI x1]) (st := [vR 0 6]) (a := 0) (i := 6) (pc := 3) d_MO_offer_3 rfl rfl rfl rfl rfl rfl rfl v_MO_isPatient lk_MO_121 rfl rfl (c_MO_isPatientV (v := 1) v0 ?_)
  refine Ev_if_ne (tgt := 13) (pc := 6) d_MO_offer_6 rfl (fun _ => ?_) (fun q => absurd q (by decide))
  refine Ev_iconst (v := 0) (pc := 13) d_MO_offer_13 (by decide) ?_
  refine Ev_iload_n (pc := 14) d_MO_offer_14 rfl ?_
  refine Ev_iconst (v := 0) (pc := 15) d_MO_offer_15 (by decide) ?_
  refine Ev_iconst (v := 3) (pc := 16) d_MO_offer_16 (by decide) ?_
  refine Ev_callS (M' := M_MO_in) (as := [vI x2, vI 0, vI 3]) (st := [vI 0, vR 0 6]) (pc := 17) d_MO_offer_17 rfl rfl rfl s_MO_in lk_MO_77 rfl rfl (c_MO_in  ?_)
  refine Ev_if_ne (tgt := 27) (pc := 20) d_MO_offer_20 rfl (fun q1 => ?_) (fun q1 => ?_)
  · refine Ev_iconst (v := 0) (pc := 27) d_MO_offer_27 (by decide) ?_
    rw [f_MO_offer_1] at k
    have j := c_MO_offer_1_28 (E := E) (P := P) (h := h) (x1 := x1) (x2 := x2) (x3 := x3) n1 n2 hR n4 n5 k
    rw [m_MO_offer_1_28, if_neg q1] at j
    exact j
  · refine Ev_iconst (v := 1) (pc := 23) d_MO_offer_23 (by decide) ?_
    refine Ev_goto (tgt := 28) (pc := 24) d_MO_offer_24 rfl ?_
    rw [f_MO_offer_1] at k
    have j := c_MO_offer_1_28 (E := E) (P := P) (h := h) (x1 := x1) (x2 := x2) (x3 := x3) n1 n2 hR n4 n5 k
    rw [m_MO_offer_1_28, if_pos q1] at j
    exact j
def m_MO_offer_0_28 (x1 : Int32) (x2 : Int32) (x3 : Int32) : Int32 := (if (f_MO_in x2 0 3) = 0 then 1 else 0)
def f_MO_offer_0_28 (h : ev_H) (x1 : Int32) (x2 : Int32) (x3 : Int32) : Int32 × ev_H := (0, (sI h 0 6 0 1))
theorem c_MO_offer_0_28 {E : ev_E} {P : Option ev_V ⊕ Nat → ev_H → Prop} {h : ev_H} {x1 : Int32} {x2 : Int32} {x3 : Int32} (k : P (.inl (some (vI (f_MO_offer_0_28 h x1 x2 x3).1))) (f_MO_offer_0_28 h x1 x2 x3).2) : Ev E M_MO_offer 28 [(0, vR 0 6), (1, vI x1), (2, vI x2), (3, vI x3)] [vI (m_MO_offer_0_28 x1 x2 x3), vI 1, vR 0 6] h P := by
  refine Ev_iconst (v := 0) (pc := 28) d_MO_offer_28 (by decide) ?_
  refine Ev_iconst (v := 0) (pc := 29) d_MO_offer_29 (by decide) ?_
  refine Ev_callV (M' := M_MO_refused) (as := [vI 1, vI (m_MO_offer_0_28 x1 x2 x3), vI 0, vI 0]) (st := []) (a := 0) (i := 6) (pc := 30) d_MO_offer_30 rfl rfl rfl rfl rfl rfl rfl v_MO_refused lk_MO_85 rfl rfl (c_MO_refused1  ?_)
  refine Ev_if_eq (tgt := 38) (pc := 33) d_MO_offer_33 rfl (fun q => absurd q (by decide)) (fun _ => ?_)
  refine Ev_iconst (v := 0) (pc := 36) d_MO_offer_36 (by decide) ?_
  refine Ev_ireturn (pc := 37) d_MO_offer_37 rfl rfl ?_
  rw [f_MO_offer_0_28] at k
  exact k
def f_MO_offer_0 (h : ev_H) (x1 : Int32) (x2 : Int32) (x3 : Int32) : Int32 × ev_H := f_MO_offer_0_28 h x1 x2 x3
theorem c_MO_offer_0 {E : ev_E} {P : Option ev_V ⊕ Nat → ev_H → Prop} {h : ev_H} {x1 : Int32} {x2 : Int32} {x3 : Int32} (v0 : f_MO_isPatient h x1 = 0) (k : P (.inl (some (vI (f_MO_offer_0 h x1 x2 x3).1))) (f_MO_offer_0 h x1 x2 x3).2) : Ev E M_MO_offer 0 [(0, vR 0 6), (1, vI x1), (2, vI x2), (3, vI x3)] [] h P := by
  refine Ev_aload_n (pc := 0) d_MO_offer_0 rfl ?_
  refine Ev_aload_n (pc := 1) d_MO_offer_1 rfl ?_
  refine Ev_iload_n (pc := 2) d_MO_offer_2 rfl ?_
  refine Ev_callV (M' := M_MO_isPatient) (as := [vI x1]) (st := [vR 0 6]) (a := 0) (i := 6) (pc := 3) d_MO_offer_3 rfl rfl rfl rfl rfl rfl rfl v_MO_isPatient lk_MO_121 rfl rfl (c_MO_isPatientV (v := 0) v0 ?_)
  refine Ev_if_ne (tgt := 13) (pc := 6) d_MO_offer_6 rfl (fun q => absurd q (by decide)) (fun _ => ?_)
  refine Ev_iconst (v := 1) (pc := 9) d_MO_offer_9 (by decide) ?_
  refine Ev_goto (tgt := 14) (pc := 10) d_MO_offer_10 rfl ?_
  refine Ev_iload_n (pc := 14) d_MO_offer_14 rfl ?_
  refine Ev_iconst (v := 0) (pc := 15) d_MO_offer_15 (by decide) ?_
  refine Ev_iconst (v := 3) (pc := 16) d_MO_offer_16 (by decide) ?_
  refine Ev_callS (M' := M_MO_in) (as := [vI x2, vI 0, vI 3]) (st := [vI 1, vR 0 6]) (pc := 17) d_MO_offer_17 rfl rfl rfl s_MO_in lk_MO_77 rfl rfl (c_MO_in  ?_)
  refine Ev_if_ne (tgt := 27) (pc := 20) d_MO_offer_20 rfl (fun q1 => ?_) (fun q1 => ?_)
  · refine Ev_iconst (v := 0) (pc := 27) d_MO_offer_27 (by decide) ?_
    rw [f_MO_offer_0] at k
    have j := c_MO_offer_0_28 (E := E) (P := P) (h := h) (x1 := x1) (x2 := x2) (x3 := x3)  k
    rw [m_MO_offer_0_28, if_neg q1] at j
    exact j
  · refine Ev_iconst (v := 1) (pc := 23) d_MO_offer_23 (by decide) ?_
    refine Ev_goto (tgt := 28) (pc := 24) d_MO_offer_24 rfl ?_
    rw [f_MO_offer_0] at k
    have j := c_MO_offer_0_28 (E := E) (P := P) (h := h) (x1 := x1) (x2 := x2) (x3 := x3)  k
    rw [m_MO_offer_0_28, if_pos q1] at j
    exact j
def m_MO_expiring_L43s_81 (h : ev_H) (x1 : Int32) (x2 : Int32) (x3 : Int32) (a : Nat) (c4 : Int32) : Int32 := (if (f_MO_expiresIn h (nI a) x1) = 0 then c4 else (if (f_MO_isBefore h (nI a) x3) = 0 then c4 else c4 + 1))
theorem c_MO_expiring_L43s_81 {E : ev_E} {P : Option ev_V ⊕ Nat → ev_H → Prop} {h : ev_H} {x1 : Int32} {x2 : Int32} {x3 : Int32} {a : Nat} {c4 : Int32} (k : Ev E M_MO_expiring 43 [(0, vR 0 6), (1, vI x1), (2, vI x2), (3, vI x3), (4, vI (m_MO_expiring_L43s_81 h x1 x2 x3 a c4)), (5, vI ((nI a) + 1))] [] h P) : Ev E M_MO_expiring 81 [(0, vR 0 6), (1, vI x1), (2, vI x2), (3, vI x3), (4, vI c4), (5, vI (nI a))] [vI (m_MO_expiring_L43s_81 h x1 x2 x3 a c4)] h P := by
  refine Ev_istore (pc := 81) d_MO_expiring_81 rfl ?_
  refine Ev_iinc (d := 1) (pc := 83) d_MO_expiring_83 rfl (by decide) rfl ?_
  refine Ev_goto (tgt := 43) (pc := 86) d_MO_expiring_86 rfl ?_
  exact k
theorem c_MO_expiring_L43s {E : ev_E} {P : Option ev_V ⊕ Nat → ev_H → Prop} {h : ev_H} {x1 : Int32} {x2 : Int32} {x3 : Int32} {a : Nat} {c4 : Int32} (q0 : ¬ (gI h 0 6 2) ≤ (nI a)) (hR : rfs h) (n2 : a < 48) (n3 : ¬ x3 < 0) (n4 : x3.toNatClampNeg < 48) (k : Ev E M_MO_expiring 43 [(0, vR 0 6), (1, vI x1), (2, vI x2), (3, vI x3), (4, vI (m_MO_expiring_L43s_81 h x1 x2 x3 a c4)), (5, vI ((nI a) + 1))] [] h P) : Ev E M_MO_expiring 43 [(0, vR 0 6), (1, vI x1), (2, vI x2), (3, vI x3), (4, vI c4), (5, vI (nI a))] [] h P := by
  refine Ev_iload (pc := 43) d_MO_expiring_43 rfl ?_
  refine Ev_aload_n (pc := 45) d_MO_expiring_45 rfl ?_
  refine Ev_getI (pc := 46) d_MO_expiring_46 rfl rfl rfl fl_MO_74 ?_
  refine Ev_icmp_ge (tgt := 89) (pc := 49) d_MO_expiring_49 rfl (fun q => absurd q q0) (fun _ => ?_)
  refine Ev_aload_n (pc := 52) d_MO_expiring_52 rfl ?_
  refine Ev_iload (pc := 53) d_MO_expiring_53 rfl ?_
  refine Ev_iload_n (pc := 55) d_MO_expiring_55 rfl ?_
  refine Ev_callV (M' := M_MO_expiresIn) (as := [vI (nI a), vI x1]) (st := []) (a := 0) (i := 6) (pc := 56) d_MO_expiring_56 rfl rfl rfl rfl rfl rfl rfl v_MO_expiresIn lk_MO_153 rfl rfl (c_MO_expiresIn hR (nIp (Nat.lt_of_lt_of_le n2 (by decide))) (nIb n2) ?_)
  refine Ev_if_eq (tgt := 79) (pc := 59) d_MO_expiring_59 rfl (fun q1 => ?_) (fun q1 => ?_)
  · refine Ev_iload (pc := 79) d_MO_expiring_79 rfl ?_
    have j := c_MO_expiring_L43s_81 (E := E) (P := P) (h := h) (x1 := x1) (x2 := x2) (x3 := x3) (a := a) (c4 := c4)  k
    rw [m_MO_expiring_L43s_81, if_pos q1] at j
    exact j
  · refine Ev_aload_n (pc := 62) d_MO_expiring_62 rfl ?_
    refine Ev_iload (pc := 63) d_MO_expiring_63 rfl ?_
    refine Ev_iload_n (pc := 65) d_MO_expiring_65 rfl ?_
    refine Ev_callV (M' := M_MO_isBefore) (as := [vI (nI a), vI x3]) (st := []) (a := 0) (i := 6) (pc := 66) d_MO_expiring_66 rfl rfl rfl rfl rfl rfl rfl v_MO_isBefore lk_MO_150 rfl rfl (c_MO_isBefore hR (nIp (Nat.lt_of_lt_of_le n2 (by decide))) (nIb n2) n3 n4 ?_)
    refine Ev_if_eq (tgt := 79) (pc := 69) d_MO_expiring_69 rfl (fun q3 => ?_) (fun q3 => ?_)
    · refine Ev_iload (pc := 79) d_MO_expiring_79 rfl ?_
      have j := c_MO_expiring_L43s_81 (E := E) (P := P) (h := h) (x1 := x1) (x2 := x2) (x3 := x3) (a := a) (c4 := c4)  k
      rw [m_MO_expiring_L43s_81, if_neg q1, if_pos q3] at j
      exact j
    · refine Ev_iload (pc := 72) d_MO_expiring_72 rfl ?_
      refine Ev_iconst (v := 1) (pc := 74) d_MO_expiring_74 (by decide) ?_
      refine Ev_iadd (pc := 75) d_MO_expiring_75 ?_
      refine Ev_goto (tgt := 81) (pc := 76) d_MO_expiring_76 rfl ?_
      have j := c_MO_expiring_L43s_81 (E := E) (P := P) (h := h) (x1 := x1) (x2 := x2) (x3 := x3) (a := a) (c4 := c4)  k
      rw [m_MO_expiring_L43s_81, if_neg q1, if_neg q3] at j
      exact j
def r_MO_expiring_L43 (h : ev_H) (x1 : Int32) (x2 : Int32) (x3 : Int32) : Nat → Int32
  | 0 => 0
  | a + 1 => (m_MO_expiring_L43s_81 h x1 x2 x3 a (r_MO_expiring_L43 h x1 x2 x3 a))
theorem lp_MO_expiring_L43 {E : ev_E} {P : Option ev_V ⊕ Nat → ev_H → Prop} {h : ev_H} {x1 : Int32} {x2 : Int32} {x3 : Int32} (n : Nat) (hn : n ≤ 48) (hb : (gI h 0 6 2) = nI n) (hR : rfs h) (n3 : ¬ x3 < 0) (n4 : x3.toNatClampNeg < 48) (k : Ev E M_MO_expiring 43 [(0, vR 0 6), (1, vI x1), (2, vI x2), (3, vI x3), (4, vI (r_MO_expiring_L43 h x1 x2 x3 n)), (5, vI (nI n))] [] h P) : Ev E M_MO_expiring 43 [(0, vR 0 6), (1, vI x1), (2, vI x2), (3, vI x3), (4, vI 0), (5, vI 0)] [] h P := by
  refine Ev_for n (fun a => [(0, vR 0 6), (1, vI x1), (2, vI x2), (3, vI x3), (4, vI (r_MO_expiring_L43 h x1 x2 x3 a)), (5, vI (nI a))]) (fun a => h) (fun a ha k => ?_) k
  have k2 : Ev E M_MO_expiring 43 [(0, vR 0 6), (1, vI x1), (2, vI x2), (3, vI x3), (4, vI (r_MO_expiring_L43 h x1 x2 x3 (a + 1))), (5, vI (nI (a + 1)))] [] h P := k
  rw [nI_succ] at k2
  exact c_MO_expiring_L43s (by rw [hb]; exact nI_ge ha (Nat.lt_of_le_of_lt hn (by decide))) hR (Nat.lt_of_lt_of_le ha (Nat.le_trans hn (by decide))) n3 n4 k2
theorem c_MO_expiring_O29s {E : ev_E} {P : Option ev_V ⊕ Nat → ev_H → Prop} {h : ev_H} {x1 : Int32} {x2 : Int32} {a : Nat} (q0 : ¬ (gI h 0 6 2) ≤ (nI a)) (n1 : (gI h 0 6 2).toNatClampNeg ≤ 48) (n2 : (gI h 0 6 2) = nI (gI h 0 6 2).toNatClampNeg) (hR : rfs h) (n4 : a < 48) (k : (((r_MO_expiring_L43 h x1 x2 (nI a) (gI h 0 6 2).toNatClampNeg) = x2) → ¬ ((f_MO_expiresIn h (nI a) x1) = 0) → False) → Ev E M_MO_expiring 29 [(0, vR 0 6), (1, vI x1), (2, vI x2), (3, vI ((nI a) + 1))] [] h P) (kr : ((r_MO_expiring_L43 h x1 x2 (nI a) (gI h 0 6 2).toNatClampNeg) = x2) → ¬ ((f_MO_expiresIn h (nI a) x1) = 0) → P (.inl (some (vI (nI a)))) h) : Ev E M_MO_expiring 29 [(0, vR 0 6), (1, vI x1), (2, vI x2), (3, vI (nI a))] [] h P := by
  refine Ev_iload_n (pc := 29) d_MO_expiring_29 rfl ?_
  refine Ev_aload_n (pc := 30) d_MO_expiring_30 rfl ?_
  refine Ev_getI (pc := 31) d_MO_expiring_31 rfl rfl rfl fl_MO_74 ?_
  refine Ev_icmp_ge (tgt := 112) (pc := 34) d_MO_expiring_34 rfl (fun q => absurd q q0) (fun _ => ?_)
  refine Ev_iconst (v := 0) (pc := 37) d_MO_expiring_37 (by decide) ?_
  refine Ev_istore (pc := 38) d_MO_expiring_38 rfl ?_
  refine Ev_iconst (v := 0) (pc := 40) d_MO_expiring_40 (by decide) ?_
  refine Ev_istore (pc := 41) d_MO_expiring_41 rfl ?_
  refine lp_MO_expiring_L43 ((gI h 0 6 2).toNatClampNeg) n1 n2 hR (nIp (Nat.lt_of_lt_of_le n4 (by decide))) (nIb n4) ?_
  refine Ev_iload (pc := 43) d_MO_expiring_43 rfl ?_
  refine Ev_aload_n (pc := 45) d_MO_expiring_45 rfl ?_
  refine Ev_getI (pc := 46) d_MO_expiring_46 rfl rfl rfl fl_MO_74 ?_
  refine Ev_icmp_ge (tgt := 89) (pc := 49) d_MO_expiring_49 rfl (fun _ => ?_) (fun q => absurd (lpx n2) q)
  refine Ev_iload (pc := 89) d_MO_expiring_89 rfl ?_
  refine Ev_iload_n (pc := 91) d_MO_expiring_91 rfl ?_
  refine Ev_icmp_ne (tgt := 106) (pc := 92) d_MO_expiring_92 rfl (fun q1 => ?_) (fun q1 => ?_)
  · refine Ev_iinc (d := 1) (pc := 106) d_MO_expiring_106 rfl (by decide) rfl ?_
    refine Ev_goto (tgt := 29) (pc := 109) d_MO_expiring_109 rfl ?_
    refine Ev_sub (lsub ?_) (k (fun z0 z1 => absurd z0 q1))
    exact (And.intro rfl (And.intro rfl (And.intro rfl (And.intro rfl trivial))))
  · refine Ev_aload_n (pc := 95) d_MO_expiring_95 rfl ?_
    refine Ev_iload_n (pc := 96) d_MO_expiring_96 rfl ?_
    refine Ev_iload_n (pc := 97) d_MO_expiring_97 rfl ?_
    refine Ev_callV (M' := M_MO_expiresIn) (as := [vI (nI a), vI x1]) (st := []) (a := 0) (i := 6) (pc := 98) d_MO_expiring_98 rfl rfl rfl rfl rfl rfl rfl v_MO_expiresIn lk_MO_153 rfl rfl (c_MO_expiresIn hR (nIp (Nat.lt_of_lt_of_le n4 (by decide))) (nIb n4) ?_)
    refine Ev_if_eq (tgt := 106) (pc := 101) d_MO_expiring_101 rfl (fun q2 => ?_) (fun q2 => ?_)
    · refine Ev_iinc (d := 1) (pc := 106) d_MO_expiring_106 rfl (by decide) rfl ?_
      refine Ev_goto (tgt := 29) (pc := 109) d_MO_expiring_109 rfl ?_
      refine Ev_sub (lsub ?_) (k (fun z0 z1 => absurd q2 z1))
      exact (And.intro rfl (And.intro rfl (And.intro rfl (And.intro rfl trivial))))
    · refine Ev_iload_n (pc := 104) d_MO_expiring_104 rfl ?_
      refine Ev_ireturn (pc := 105) d_MO_expiring_105 rfl rfl ?_
      exact kr q1 q2
theorem c_MO_expiring_O29f {E : ev_E} {P : Option ev_V ⊕ Nat → ev_H → Prop} {h : ev_H} {x1 : Int32} {x2 : Int32} {n : Nat} (q0 : (gI h 0 6 2) ≤ (nI n)) (k : P (.inl (some (vI (-1)))) h) : Ev E M_MO_expiring 29 [(0, vR 0 6), (1, vI x1), (2, vI x2), (3, vI (nI n))] [] h P := by
  refine Ev_iload_n (pc := 29) d_MO_expiring_29 rfl ?_
  refine Ev_aload_n (pc := 30) d_MO_expiring_30 rfl ?_
  refine Ev_getI (pc := 31) d_MO_expiring_31 rfl rfl rfl fl_MO_74 ?_
  refine Ev_icmp_ge (tgt := 112) (pc := 34) d_MO_expiring_34 rfl (fun _ => ?_) (fun q => absurd q0 q)
  refine Ev_iconst (v := -1) (pc := 112) d_MO_expiring_112 (by decide) ?_
  refine Ev_ireturn (pc := 113) d_MO_expiring_113 rfl rfl ?_
  exact k
def res_MO_expiring_O29_c (h : ev_H) (x1 : Int32) (x2 : Int32) (a : Nat) : Prop := ((r_MO_expiring_L43 h x1 x2 (nI a) (gI h 0 6 2).toNatClampNeg) = x2) ∧ ¬ ((f_MO_expiresIn h (nI a) x1) = 0)
noncomputable def res_MO_expiring_O29 (h : ev_H) (x1 : Int32) (x2 : Int32) (n : Nat) : Nat → Int32
  | 0 => -1
  | d + 1 => @ite _ (res_MO_expiring_O29_c h x1 x2 (n - (d + 1))) (Classical.propDecidable _) (nI (n - (d + 1))) (res_MO_expiring_O29 h x1 x2 n d)
theorem lp_MO_expiring_O29 {E : ev_E} {P : Option ev_V ⊕ Nat → ev_H → Prop} {h : ev_H} {x1 : Int32} {x2 : Int32} (n : Nat) (hn : n ≤ 48) (hb : (gI h 0 6 2) = nI n) (n1 : (gI h 0 6 2).toNatClampNeg ≤ 48) (n2 : (gI h 0 6 2) = nI (gI h 0 6 2).toNatClampNeg) (hR : rfs h) : ∀ d, d ≤ n → P (.inl (some (vI (res_MO_expiring_O29 h x1 x2 n d)))) h → Ev E M_MO_expiring 29 [(0, vR 0 6), (1, vI x1), (2, vI x2), (3, vI (nI (n - d)))] [] h P := by
  intro d
  induction d with
  | zero => exact fun _ k => c_MO_expiring_O29f (lpx hb) k
  | succ d ih =>
    intro hd k
    have ha : n - (d + 1) < n := by omega
    have e1 : nI (n - d) = nI (n - (d + 1)) + 1 := by rw [← nI_succ]; congr 1; omega
    by_cases hc : res_MO_expiring_O29_c h x1 x2 (n - (d + 1))
    · rw [res_MO_expiring_O29, if_pos hc] at k
      refine c_MO_expiring_O29s (by rw [hb]; exact nI_ge ha (Nat.lt_of_le_of_lt hn (by decide))) n1 n2 hR (Nat.lt_of_lt_of_le ha (Nat.le_trans hn (by decide))) (fun z => ?_) (fun _ _ => k)
      unfold res_MO_expiring_O29_c at hc
      exact (z hc.1 hc.2).elim
    · rw [res_MO_expiring_O29, if_neg hc] at k
      refine c_MO_expiring_O29s (by rw [hb]; exact nI_ge ha (Nat.lt_of_le_of_lt hn (by decide))) n1 n2 hR (Nat.lt_of_lt_of_le ha (Nat.le_trans hn (by decide))) (fun _ => ?_) (fun z0 z1 => absurd (show res_MO_expiring_O29_c h x1 x2 (n - (d + 1)) from ⟨z0, z1⟩) hc)
      have k2 := ih (by omega) k
      rw [e1] at k2
      exact k2
theorem lq_MO_expiring_O29 {E : ev_E} {P : Option ev_V ⊕ Nat → ev_H → Prop} {h : ev_H} {x1 : Int32} {x2 : Int32} (n : Nat) (hn : n ≤ 48) (hb : (gI h 0 6 2) = nI n) (n1 : (gI h 0 6 2).toNatClampNeg ≤ 48) (n2 : (gI h 0 6 2) = nI (gI h 0 6 2).toNatClampNeg) (hR : rfs h) (k : P (.inl (some (vI (res_MO_expiring_O29 h x1 x2 n n)))) h) : Ev E M_MO_expiring 29 [(0, vR 0 6), (1, vI x1), (2, vI x2), (3, vI 0)] [] h P := by
  have k2 := lp_MO_expiring_O29 (E := E) (P := P) n hn hb n1 n2 hR n (Nat.le_refl _) k
  rw [Nat.sub_self] at k2
  exact k2
def m_MO_expiring_16 (x1 : Int32) (x2 : Int32) : Int32 := (if (f_MO_in x1 0 60000) = 0 then 1 else 0)
noncomputable def f_MO_expiring_16 (h : ev_H) (x1 : Int32) (x2 : Int32) : Int32 × ev_H := ((if ((f_MO_refused h (m_MO_expiring_16 x1 x2) 0 0 0).1) = 0 then (res_MO_expiring_O29 ((f_MO_refused h (m_MO_expiring_16 x1 x2) 0 0 0).2) x1 x2 (gI ((f_MO_refused h (m_MO_expiring_16 x1 x2) 0 0 0).2) 0 6 2).toNatClampNeg (gI ((f_MO_refused h (m_MO_expiring_16 x1 x2) 0 0 0).2) 0 6 2).toNatClampNeg) else 0), ((f_MO_refused h (m_MO_expiring_16 x1 x2) 0 0 0).2))
theorem c_MO_expiring_16 {E : ev_E} {P : Option ev_V ⊕ Nat → ev_H → Prop} {h : ev_H} {x1 : Int32} {x2 : Int32} (n0 : (gI h 0 6 2).toNatClampNeg ≤ 48) (n1 : (gI h 0 6 2) = nI (gI h 0 6 2).toNatClampNeg) (hR : rfs h) (k : P (.inl (some (vI (f_MO_expiring_16 h x1 x2).1))) (f_MO_expiring_16 h x1 x2).2) : Ev E M_MO_expiring 16 [(0, vR 0 6), (1, vI x1), (2, vI x2)] [vI (m_MO_expiring_16 x1 x2), vR 0 6] h P := by
  refine Ev_iconst (v := 0) (pc := 16) d_MO_expiring_16 (by decide) ?_
  refine Ev_iconst (v := 0) (pc := 17) d_MO_expiring_17 (by decide) ?_
  refine Ev_iconst (v := 0) (pc := 18) d_MO_expiring_18 (by decide) ?_
  refine Ev_callV (M' := M_MO_refused) (as := [vI (m_MO_expiring_16 x1 x2), vI 0, vI 0, vI 0]) (st := []) (a := 0) (i := 6) (pc := 19) d_MO_expiring_19 rfl rfl rfl rfl rfl rfl rfl v_MO_refused lk_MO_85 rfl rfl (c_MO_refused  ?_)
  refine Ev_if_eq (tgt := 27) (pc := 22) d_MO_expiring_22 rfl (fun q2 => ?_) (fun q2 => ?_)
  · refine Ev_iconst (v := 0) (pc := 27) d_MO_expiring_27 (by decide) ?_
    refine Ev_istore_n (pc := 28) d_MO_expiring_28 rfl ?_
    refine lq_MO_expiring_O29 ((gI ((f_MO_refused h (m_MO_expiring_16 x1 x2) 0 0 0).2) 0 6 2).toNatClampNeg) n0 n1 n0 n1 hR ?_
    simp only [f_MO_expiring_16, if_pos q2] at k
    exact k
  · refine Ev_iconst (v := 0) (pc := 25) d_MO_expiring_25 (by decide) ?_
    refine Ev_ireturn (pc := 26) d_MO_expiring_26 rfl rfl ?_
    simp only [f_MO_expiring_16, if_neg q2] at k
    exact k
noncomputable def f_MO_expiring (h : ev_H) (x1 : Int32) (x2 : Int32) : Int32 × ev_H := f_MO_expiring_16 h x1 x2
theorem c_MO_expiring {E : ev_E} {P : Option ev_V ⊕ Nat → ev_H → Prop} {h : ev_H} {x1 : Int32} {x2 : Int32} (n0 : (gI h 0 6 2).toNatClampNeg ≤ 48) (n1 : (gI h 0 6 2) = nI (gI h 0 6 2).toNatClampNeg) (hR : rfs h) (k : P (.inl (some (vI (f_MO_expiring h x1 x2).1))) (f_MO_expiring h x1 x2).2) : Ev E M_MO_expiring 0 [(0, vR 0 6), (1, vI x1), (2, vI x2)] [] h P := by
  refine Ev_aload_n (pc := 0) d_MO_expiring_0 rfl ?_
  refine Ev_iload_n (pc := 1) d_MO_expiring_1 rfl ?_
  refine Ev_iconst (v := 0) (pc := 2) d_MO_expiring_2 (by decide) ?_
  refine Ev_ldc (pc := 3) d_MO_expiring_3 w_con_MO_106 ?_
  refine Ev_callS (M' := M_MO_in) (as := [vI x1, vI 0, vI 60000]) (st := [vR 0 6]) (pc := 5) d_MO_expiring_5 rfl rfl rfl s_MO_in lk_MO_77 rfl rfl (c_MO_in  ?_)
  refine Ev_if_ne (tgt := 15) (pc := 8) d_MO_expiring_8 rfl (fun q1 => ?_) (fun q1 => ?_)
  · refine Ev_iconst (v := 0) (pc := 15) d_MO_expiring_15 (by decide) ?_
    rw [f_MO_expiring] at k
    have j := c_MO_expiring_16 (E := E) (P := P) (h := h) (x1 := x1) (x2 := x2) n0 n1 hR k
    rw [m_MO_expiring_16, if_neg q1] at j
    exact j
  · refine Ev_iconst (v := 1) (pc := 11) d_MO_expiring_11 (by decide) ?_
    refine Ev_goto (tgt := 16) (pc := 12) d_MO_expiring_12 rfl ?_
    rw [f_MO_expiring] at k
    have j := c_MO_expiring_16 (E := E) (P := P) (h := h) (x1 := x1) (x2 := x2) n0 n1 hR k
    rw [m_MO_expiring_16, if_pos q1] at j
    exact j
def m_MO_received_L41s_96 (h : ev_H) (x1 : Int32) (x2 : Int32) (x3 : Int32) (a : Nat) (c4 : Int32) : Int32 := (if (gI h 0 18 a) ≤ 0 then c4 else (if (gI h 0 16 a) = x1 then (if (gI h 0 18 x3.toNatClampNeg) ≤ (gI h 0 18 a) then c4 else c4 + 1) else c4))
theorem c_MO_received_L41s_96 {E : ev_E} {P : Option ev_V ⊕ Nat → ev_H → Prop} {h : ev_H} {x1 : Int32} {x2 : Int32} {x3 : Int32} {a : Nat} {c4 : Int32} (k : Ev E M_MO_received 41 [(0, vR 0 6), (1, vI x1), (2, vI x2), (3, vI x3), (4, vI (m_MO_received_L41s_96 h x1 x2 x3 a c4)), (5, vI ((nI a) + 1))] [] h P) : Ev E M_MO_received 96 [(0, vR 0 6), (1, vI x1), (2, vI x2), (3, vI x3), (4, vI c4), (5, vI (nI a))] [vI (m_MO_received_L41s_96 h x1 x2 x3 a c4)] h P := by
  refine Ev_istore (pc := 96) d_MO_received_96 rfl ?_
  refine Ev_iinc (d := 1) (pc := 98) d_MO_received_98 rfl (by decide) rfl ?_
  refine Ev_goto (tgt := 41) (pc := 101) d_MO_received_101 rfl ?_
  exact k
theorem c_MO_received_L41s {E : ev_E} {P : Option ev_V ⊕ Nat → ev_H → Prop} {h : ev_H} {x1 : Int32} {x2 : Int32} {x3 : Int32} {a : Nat} {c4 : Int32} (q0 : ¬ (gI h 0 6 2) ≤ (nI a)) (hR : rfs h) (n2 : a < 48) (n3 : ¬ x3 < 0) (n4 : x3.toNatClampNeg < 48) (k : Ev E M_MO_received 41 [(0, vR 0 6), (1, vI x1), (2, vI x2), (3, vI x3), (4, vI (m_MO_received_L41s_96 h x1 x2 x3 a c4)), (5, vI ((nI a) + 1))] [] h P) : Ev E M_MO_received 41 [(0, vR 0 6), (1, vI x1), (2, vI x2), (3, vI x3), (4, vI c4), (5, vI (nI a))] [] h P := by
  refine Ev_iload (pc := 41) d_MO_received_41 rfl ?_
  refine Ev_aload_n (pc := 43) d_MO_received_43 rfl ?_
  refine Ev_getI (pc := 44) d_MO_received_44 rfl rfl rfl fl_MO_74 ?_
  refine Ev_icmp_ge (tgt := 104) (pc := 47) d_MO_received_47 rfl (fun q => absurd q q0) (fun _ => ?_)
  refine Ev_aload_n (pc := 50) d_MO_received_50 rfl ?_
  refine Ev_getR (pc := 51) d_MO_received_51 rfl rfl rfl fl_MO_43 (rf_MO_14 hR) ?_
  refine Ev_iload (pc := 54) d_MO_received_54 rfl ?_
  refine Ev_ialdJ (pc := 56) d_MO_received_56 rfl rfl (nIp (Nat.lt_of_lt_of_le n2 (by decide))) (nIc (Nat.lt_of_lt_of_le n2 (by decide))) n2 ?_
  refine Ev_if_le (tgt := 94) (pc := 57) d_MO_received_57 rfl (fun q1 => ?_) (fun q1 => ?_)
  · refine Ev_iload (pc := 94) d_MO_received_94 rfl ?_
    have j := c_MO_received_L41s_96 (E := E) (P := P) (h := h) (x1 := x1) (x2 := x2) (x3 := x3) (a := a) (c4 := c4)  k
    rw [m_MO_received_L41s_96, if_pos q1] at j
    exact j
  · refine Ev_aload_n (pc := 60) d_MO_received_60 rfl ?_
    refine Ev_getR (pc := 61) d_MO_received_61 rfl rfl rfl fl_MO_37 (rf_MO_12 hR) ?_
    refine Ev_iload (pc := 64) d_MO_received_64 rfl ?_
    refine Ev_ialdJ (pc := 66) d_MO_received_66 rfl rfl (nIp (Nat.lt_of_lt_of_le n2 (by decide))) (nIc (Nat.lt_of_lt_of_le n2 (by decide))) n2 ?_
    refine Ev_iload_n (pc := 67) d_MO_received_67 rfl ?_
    refine Ev_icmp_ne (tgt := 94) (pc := 68) d_MO_received_68 rfl (fun q4 => ?_) (fun q4 => ?_)
    · refine Ev_iload (pc := 94) d_MO_received_94 rfl ?_
      have j := c_MO_received_L41s_96 (E := E) (P := P) (h := h) (x1 := x1) (x2 := x2) (x3 := x3) (a := a) (c4 := c4)  k
      rw [m_MO_received_L41s_96, if_neg q1, if_neg q4] at j
      exact j
    · refine Ev_aload_n (pc := 71) d_MO_received_71 rfl ?_
      refine Ev_getR (pc := 72) d_MO_received_72 rfl rfl rfl fl_MO_43 (rf_MO_14 hR) ?_
      refine Ev_iload (pc := 75) d_MO_received_75 rfl ?_
      refine Ev_ialdJ (pc := 77) d_MO_received_77 rfl rfl (nIp (Nat.lt_of_lt_of_le n2 (by decide))) (nIc (Nat.lt_of_lt_of_le n2 (by decide))) n2 ?_
      refine Ev_aload_n (pc := 78) d_MO_received_78 rfl ?_
      refine Ev_getR (pc := 79) d_MO_received_79 rfl rfl rfl fl_MO_43 (rf_MO_14 hR) ?_
      refine Ev_iload_n (pc := 82) d_MO_received_82 rfl ?_
      refine Ev_iald (pc := 83) d_MO_received_83 rfl rfl n3 n4 ?_
      refine Ev_icmp_ge (tgt := 94) (pc := 84) d_MO_received_84 rfl (fun q5 => ?_) (fun q5 => ?_)
      · refine Ev_iload (pc := 94) d_MO_received_94 rfl ?_
        have j := c_MO_received_L41s_96 (E := E) (P := P) (h := h) (x1 := x1) (x2 := x2) (x3 := x3) (a := a) (c4 := c4)  k
        rw [m_MO_received_L41s_96, if_neg q1, if_pos q4, if_pos q5] at j
        exact j
      · refine Ev_iload (pc := 87) d_MO_received_87 rfl ?_
        refine Ev_iconst (v := 1) (pc := 89) d_MO_received_89 (by decide) ?_
        refine Ev_iadd (pc := 90) d_MO_received_90 ?_
        refine Ev_goto (tgt := 96) (pc := 91) d_MO_received_91 rfl ?_
        have j := c_MO_received_L41s_96 (E := E) (P := P) (h := h) (x1 := x1) (x2 := x2) (x3 := x3) (a := a) (c4 := c4)  k
        rw [m_MO_received_L41s_96, if_neg q1, if_pos q4, if_neg q5] at j
        exact j
def r_MO_received_L41 (h : ev_H) (x1 : Int32) (x2 : Int32) (x3 : Int32) : Nat → Int32
  | 0 => 0
  | a + 1 => (m_MO_received_L41s_96 h x1 x2 x3 a (r_MO_received_L41 h x1 x2 x3 a))
theorem lp_MO_received_L41 {E : ev_E} {P : Option ev_V ⊕ Nat → ev_H → Prop} {h : ev_H} {x1 : Int32} {x2 : Int32} {x3 : Int32} (n : Nat) (hn : n ≤ 48) (hb : (gI h 0 6 2) = nI n) (hR : rfs h) (n3 : ¬ x3 < 0) (n4 : x3.toNatClampNeg < 48) (k : Ev E M_MO_received 41 [(0, vR 0 6), (1, vI x1), (2, vI x2), (3, vI x3), (4, vI (r_MO_received_L41 h x1 x2 x3 n)), (5, vI (nI n))] [] h P) : Ev E M_MO_received 41 [(0, vR 0 6), (1, vI x1), (2, vI x2), (3, vI x3), (4, vI 0), (5, vI 0)] [] h P := by
  refine Ev_for n (fun a => [(0, vR 0 6), (1, vI x1), (2, vI x2), (3, vI x3), (4, vI (r_MO_received_L41 h x1 x2 x3 a)), (5, vI (nI a))]) (fun a => h) (fun a ha k => ?_) k
  have k2 : Ev E M_MO_received 41 [(0, vR 0 6), (1, vI x1), (2, vI x2), (3, vI x3), (4, vI (r_MO_received_L41 h x1 x2 x3 (a + 1))), (5, vI (nI (a + 1)))] [] h P := k
  rw [nI_succ] at k2
  exact c_MO_received_L41s (by rw [hb]; exact nI_ge ha (Nat.lt_of_le_of_lt hn (by decide))) hR (Nat.lt_of_lt_of_le ha (Nat.le_trans hn (by decide))) n3 n4 k2
theorem c_MO_received_O27s {E : ev_E} {P : Option ev_V ⊕ Nat → ev_H → Prop} {h : ev_H} {x1 : Int32} {x2 : Int32} {a : Nat} (q0 : ¬ (gI h 0 6 2) ≤ (nI a)) (n1 : (gI h 0 6 2).toNatClampNeg ≤ 48) (n2 : (gI h 0 6 2) = nI (gI h 0 6 2).toNatClampNeg) (hR : rfs h) (n4 : a < 48) (k : (¬ ((gI h 0 18 a) ≤ 0) → ((gI h 0 16 a) = x1) → ((r_MO_received_L41 h x1 x2 (nI a) (gI h 0 6 2).toNatClampNeg) = x2) → False) → Ev E M_MO_received 27 [(0, vR 0 6), (1, vI x1), (2, vI x2), (3, vI ((nI a) + 1))] [] h P) (kr : ¬ ((gI h 0 18 a) ≤ 0) → ((gI h 0 16 a) = x1) → ((r_MO_received_L41 h x1 x2 (nI a) (gI h 0 6 2).toNatClampNeg) = x2) → P (.inl (some (vI (nI a)))) h) : Ev E M_MO_received 27 [(0, vR 0 6), (1, vI x1), (2, vI x2), (3, vI (nI a))] [] h P := by
  refine Ev_iload_n (pc := 27) d_MO_received_27 rfl ?_
  refine Ev_aload_n (pc := 28) d_MO_received_28 rfl ?_
  refine Ev_getI (pc := 29) d_MO_received_29 rfl rfl rfl fl_MO_74 ?_
  refine Ev_icmp_ge (tgt := 137) (pc := 32) d_MO_received_32 rfl (fun q => absurd q q0) (fun _ => ?_)
  refine Ev_iconst (v := 0) (pc := 35) d_MO_received_35 (by decide) ?_
  refine Ev_istore (pc := 36) d_MO_received_36 rfl ?_
  refine Ev_iconst (v := 0) (pc := 38) d_MO_received_38 (by decide) ?_
  refine Ev_istore (pc := 39) d_MO_received_39 rfl ?_
  refine lp_MO_received_L41 ((gI h 0 6 2).toNatClampNeg) n1 n2 hR (nIp (Nat.lt_of_lt_of_le n4 (by decide))) (nIb n4) ?_
  refine Ev_iload (pc := 41) d_MO_received_41 rfl ?_
  refine Ev_aload_n (pc := 43) d_MO_received_43 rfl ?_
  refine Ev_getI (pc := 44) d_MO_received_44 rfl rfl rfl fl_MO_74 ?_
  refine Ev_icmp_ge (tgt := 104) (pc := 47) d_MO_received_47 rfl (fun _ => ?_) (fun q => absurd (lpx n2) q)
  refine Ev_aload_n (pc := 104) d_MO_received_104 rfl ?_
  refine Ev_getR (pc := 105) d_MO_received_105 rfl rfl rfl fl_MO_43 (rf_MO_14 hR) ?_
  refine Ev_iload_n (pc := 108) d_MO_received_108 rfl ?_
  refine Ev_ialdJ (pc := 109) d_MO_received_109 rfl rfl (nIp (Nat.lt_of_lt_of_le n4 (by decide))) (nIc (Nat.lt_of_lt_of_le n4 (by decide))) n4 ?_
  refine Ev_if_le (tgt := 131) (pc := 110) d_MO_received_110 rfl (fun q1 => ?_) (fun q1 => ?_)
  · refine Ev_iinc (d := 1) (pc := 131) d_MO_received_131 rfl (by decide) rfl ?_
    refine Ev_goto (tgt := 27) (pc := 134) d_MO_received_134 rfl ?_
    refine Ev_sub (lsub ?_) (k (fun z0 z1 z2 => absurd q1 z0))
    exact (And.intro rfl (And.intro rfl (And.intro rfl (And.intro rfl trivial))))
  · refine Ev_aload_n (pc := 113) d_MO_received_113 rfl ?_
    refine Ev_getR (pc := 114) d_MO_received_114 rfl rfl rfl fl_MO_37 (rf_MO_12 hR) ?_
    refine Ev_iload_n (pc := 117) d_MO_received_117 rfl ?_
    refine Ev_ialdJ (pc := 118) d_MO_received_118 rfl rfl (nIp (Nat.lt_of_lt_of_le n4 (by decide))) (nIc (Nat.lt_of_lt_of_le n4 (by decide))) n4 ?_
    refine Ev_iload_n (pc := 119) d_MO_received_119 rfl ?_
    refine Ev_icmp_ne (tgt := 131) (pc := 120) d_MO_received_120 rfl (fun q2 => ?_) (fun q2 => ?_)
    · refine Ev_iinc (d := 1) (pc := 131) d_MO_received_131 rfl (by decide) rfl ?_
      refine Ev_goto (tgt := 27) (pc := 134) d_MO_received_134 rfl ?_
      refine Ev_sub (lsub ?_) (k (fun z0 z1 z2 => absurd z1 q2))
      exact (And.intro rfl (And.intro rfl (And.intro rfl (And.intro rfl trivial))))
    · refine Ev_iload (pc := 123) d_MO_received_123 rfl ?_
      refine Ev_iload_n (pc := 125) d_MO_received_125 rfl ?_
      refine Ev_icmp_ne (tgt := 131) (pc := 126) d_MO_received_126 rfl (fun q3 => ?_) (fun q3 => ?_)
      · refine Ev_iinc (d := 1) (pc := 131) d_MO_received_131 rfl (by decide) rfl ?_
        refine Ev_goto (tgt := 27) (pc := 134) d_MO_received_134 rfl ?_
        refine Ev_sub (lsub ?_) (k (fun z0 z1 z2 => absurd z2 q3))
        exact (And.intro rfl (And.intro rfl (And.intro rfl (And.intro rfl trivial))))
      · refine Ev_iload_n (pc := 129) d_MO_received_129 rfl ?_
        refine Ev_ireturn (pc := 130) d_MO_received_130 rfl rfl ?_
        exact kr q1 q2 q3
theorem c_MO_received_O27f {E : ev_E} {P : Option ev_V ⊕ Nat → ev_H → Prop} {h : ev_H} {x1 : Int32} {x2 : Int32} {n : Nat} (q0 : (gI h 0 6 2) ≤ (nI n)) (k : P (.inl (some (vI (-1)))) h) : Ev E M_MO_received 27 [(0, vR 0 6), (1, vI x1), (2, vI x2), (3, vI (nI n))] [] h P := by
  refine Ev_iload_n (pc := 27) d_MO_received_27 rfl ?_
  refine Ev_aload_n (pc := 28) d_MO_received_28 rfl ?_
  refine Ev_getI (pc := 29) d_MO_received_29 rfl rfl rfl fl_MO_74 ?_
  refine Ev_icmp_ge (tgt := 137) (pc := 32) d_MO_received_32 rfl (fun _ => ?_) (fun q => absurd q0 q)
  refine Ev_iconst (v := -1) (pc := 137) d_MO_received_137 (by decide) ?_
  refine Ev_ireturn (pc := 138) d_MO_received_138 rfl rfl ?_
  exact k
def res_MO_received_O27_c (h : ev_H) (x1 : Int32) (x2 : Int32) (a : Nat) : Prop := ¬ ((gI h 0 18 a) ≤ 0) ∧ ((gI h 0 16 a) = x1) ∧ ((r_MO_received_L41 h x1 x2 (nI a) (gI h 0 6 2).toNatClampNeg) = x2)
noncomputable def res_MO_received_O27 (h : ev_H) (x1 : Int32) (x2 : Int32) (n : Nat) : Nat → Int32
  | 0 => -1
  | d + 1 => @ite _ (res_MO_received_O27_c h x1 x2 (n - (d + 1))) (Classical.propDecidable _) (nI (n - (d + 1))) (res_MO_received_O27 h x1 x2 n d)
theorem lp_MO_received_O27 {E : ev_E} {P : Option ev_V ⊕ Nat → ev_H → Prop} {h : ev_H} {x1 : Int32} {x2 : Int32} (n : Nat) (hn : n ≤ 48) (hb : (gI h 0 6 2) = nI n) (n1 : (gI h 0 6 2).toNatClampNeg ≤ 48) (n2 : (gI h 0 6 2) = nI (gI h 0 6 2).toNatClampNeg) (hR : rfs h) : ∀ d, d ≤ n → P (.inl (some (vI (res_MO_received_O27 h x1 x2 n d)))) h → Ev E M_MO_received 27 [(0, vR 0 6), (1, vI x1), (2, vI x2), (3, vI (nI (n - d)))] [] h P := by
  intro d
  induction d with
  | zero => exact fun _ k => c_MO_received_O27f (lpx hb) k
  | succ d ih =>
    intro hd k
    have ha : n - (d + 1) < n := by omega
    have e1 : nI (n - d) = nI (n - (d + 1)) + 1 := by rw [← nI_succ]; congr 1; omega
    by_cases hc : res_MO_received_O27_c h x1 x2 (n - (d + 1))
    · rw [res_MO_received_O27, if_pos hc] at k
      refine c_MO_received_O27s (by rw [hb]; exact nI_ge ha (Nat.lt_of_le_of_lt hn (by decide))) n1 n2 hR (Nat.lt_of_lt_of_le ha (Nat.le_trans hn (by decide))) (fun z => ?_) (fun _ _ _ => k)
      unfold res_MO_received_O27_c at hc
      exact (z hc.1 hc.2.1 hc.2.2).elim
    · rw [res_MO_received_O27, if_neg hc] at k
      refine c_MO_received_O27s (by rw [hb]; exact nI_ge ha (Nat.lt_of_le_of_lt hn (by decide))) n1 n2 hR (Nat.lt_of_lt_of_le ha (Nat.le_trans hn (by decide))) (fun _ => ?_) (fun z0 z1 z2 => absurd (show res_MO_received_O27_c h x1 x2 (n - (d + 1)) from ⟨z0, z1, z2⟩) hc)
      have k2 := ih (by omega) k
      rw [e1] at k2
      exact k2
theorem lq_MO_received_O27 {E : ev_E} {P : Option ev_V ⊕ Nat → ev_H → Prop} {h : ev_H} {x1 : Int32} {x2 : Int32} (n : Nat) (hn : n ≤ 48) (hb : (gI h 0 6 2) = nI n) (n1 : (gI h 0 6 2).toNatClampNeg ≤ 48) (n2 : (gI h 0 6 2) = nI (gI h 0 6 2).toNatClampNeg) (hR : rfs h) (k : P (.inl (some (vI (res_MO_received_O27 h x1 x2 n n)))) h) : Ev E M_MO_received 27 [(0, vR 0 6), (1, vI x1), (2, vI x2), (3, vI 0)] [] h P := by
  have k2 := lp_MO_received_O27 (E := E) (P := P) n hn hb n1 n2 hR n (Nat.le_refl _) k
  rw [Nat.sub_self] at k2
  exact k2
noncomputable def f_MO_received_1 (h : ev_H) (x1 : Int32) (x2 : Int32) : Int32 × ev_H := ((if ((f_MO_refused h 0 0 0 0).1) = 0 then (res_MO_received_O27 ((f_MO_refused h 0 0 0 0).2) x1 x2 (gI ((f_MO_refused h 0 0 0 0).2) 0 6 2).toNatClampNeg (gI ((f_MO_refused h 0 0 0 0).2) 0 6 2).toNatClampNeg) else 0), ((f_MO_refused h 0 0 0 0).2))
theorem c_MO_received_1 {E : ev_E} {P : Option ev_V ⊕ Nat → ev_H → Prop} {h : ev_H} {x1 : Int32} {x2 : Int32} (v0 : f_MO_isPatient h x1 = 1) (n1 : (gI h 0 6 2).toNatClampNeg ≤ 48) (n2 : (gI h 0 6 2) = nI (gI h 0 6 2).toNatClampNeg) (hR : rfs h) (k : P (.inl (some (vI (f_MO_received_1 h x1 x2).1))) (f_MO_received_1 h x1 x2).2) : Ev E M_MO_received 0 [(0, vR 0 6), (1, vI x1), (2, vI x2)] [] h P := by
  refine Ev_aload_n (pc := 0) d_MO_received_0 rfl ?_
  refine Ev_aload_n (pc := 1) d_MO_received_1 rfl ?_
  refine Ev_iload_n (pc := 2) d_MO_received_2 rfl ?_
  refine Ev_callV (M' := M_MO_isPatient) (as := [vI x1]) (st := [vR 0 6]) (a := 0) (i := 6) (pc := 3) d_MO_received_3 rfl rfl rfl rfl rfl rfl rfl v_MO_isPatient lk_MO_121 rfl rfl (c_MO_isPatientV (v := 1) v0 ?_)
  refine Ev_if_ne (tgt := 13) (pc := 6) d_MO_received_6 rfl (fun _ => ?_) (fun q => absurd q (by decide))
  refine Ev_iconst (v := 0) (pc := 13) d_MO_received_13 (by decide) ?_
  refine Ev_iconst (v := 0) (pc := 14) d_MO_received_14 (by decide) ?_
  refine Ev_iconst (v := 0) (pc := 15) d_MO_received_15 (by decide) ?_
  refine Ev_iconst (v := 0) (pc := 16) d_MO_received_16 (by decide) ?_
  refine Ev_callV (M' := M_MO_refused) (as := [vI 0, vI 0, vI 0, vI 0]) (st := []) (a := 0) (i := 6) (pc := 17) d_MO_received_17 rfl rfl rfl rfl rfl rfl rfl v_MO_refused lk_MO_85 rfl rfl (c_MO_refused  ?_)
  refine Ev_if_eq (tgt := 25) (pc := 20) d_MO_received_20 rfl (fun q1 => ?_) (fun q1 => ?_)
  · refine Ev_iconst (v := 0) (pc := 25) d_MO_received_25 (by decide) ?_
    refine Ev_istore_n (pc := 26) d_MO_received_26 rfl ?_
    refine lq_MO_received_O27 ((gI ((f_MO_refused h 0 0 0 0).2) 0 6 2).toNatClampNeg) n1 n2 n1 n2 hR ?_
    simp only [f_MO_received_1, if_pos q1] at k
    exact k
  · refine Ev_iconst (v := 0) (pc := 23) d_MO_received_23 (by decide) ?_
    refine Ev_ireturn (pc := 24) d_MO_received_24 rfl rfl ?_
    simp only [f_MO_received_1, if_neg q1] at k
    exact k
def f_MO_received_0 (h : ev_H) (x1 : Int32) (x2 : Int32) : Int32 × ev_H := (0, (sI h 0 6 0 1))
theorem c_MO_received_0 {E : ev_E} {P : Option ev_V ⊕ Nat → ev_H → Prop} {h : ev_H} {x1 : Int32} {x2 : Int32} (v0 : f_MO_isPatient h x1 = 0) (k : P (.inl (some (vI (f_MO_received_0 h x1 x2).1))) (f_MO_received_0 h x1 x2).2) : Ev E M_MO_received 0 [(0, vR 0 6), (1, vI x1), (2, vI x2)] [] h P := by
  refine Ev_aload_n (pc := 0) d_MO_received_0 rfl ?_
  refine Ev_aload_n (pc := 1) d_MO_received_1 rfl ?_
  refine Ev_iload_n (pc := 2) d_MO_received_2 rfl ?_
  refine Ev_callV (M' := M_MO_isPatient) (as := [vI x1]) (st := [vR 0 6]) (a := 0) (i := 6) (pc := 3) d_MO_received_3 rfl rfl rfl rfl rfl rfl rfl v_MO_isPatient lk_MO_121 rfl rfl (c_MO_isPatientV (v := 0) v0 ?_)
  refine Ev_if_ne (tgt := 13) (pc := 6) d_MO_received_6 rfl (fun q => absurd q (by decide)) (fun _ => ?_)
  refine Ev_iconst (v := 1) (pc := 9) d_MO_received_9 (by decide) ?_
  refine Ev_goto (tgt := 14) (pc := 10) d_MO_received_10 rfl ?_
  refine Ev_iconst (v := 0) (pc := 14) d_MO_received_14 (by decide) ?_
  refine Ev_iconst (v := 0) (pc := 15) d_MO_received_15 (by decide) ?_
  refine Ev_iconst (v := 0) (pc := 16) d_MO_received_16 (by decide) ?_
  refine Ev_callV (M' := M_MO_refused) (as := [vI 1, vI 0, vI 0, vI 0]) (st := []) (a := 0) (i := 6) (pc := 17) d_MO_received_17 rfl rfl rfl rfl rfl rfl rfl v_MO_refused lk_MO_85 rfl rfl (c_MO_refused1  ?_)
  refine Ev_if_eq (tgt := 25) (pc := 20) d_MO_received_20 rfl (fun q => absurd q (by decide)) (fun _ => ?_)
  refine Ev_iconst (v := 0) (pc := 23) d_MO_received_23 (by decide) ?_
  refine Ev_ireturn (pc := 24) d_MO_received_24 rfl rfl ?_
  rw [f_MO_received_0] at k
  exact k
def m_MO_lookback_L51s_90 (h : ev_H) (x1 : Int32) (x2 : Int32) (x3 : Int32) (x4 : Int32) (a : Nat) (c5 : Int32) : Int32 := (if (f_MO_firstIssue h (nI a) x1) ≤ 0 then c5 else (if x4 ≤ (f_MO_firstIssue h (nI a) x1) then c5 else c5 + 1))
theorem c_MO_lookback_L51s_90 {E : ev_E} {P : Option ev_V ⊕ Nat → ev_H → Prop} {h : ev_H} {x1 : Int32} {x2 : Int32} {x3 : Int32} {x4 : Int32} {a : Nat} {c5 : Int32} (k : Ev E M_MO_lookback 51 [(0, vR 0 6), (1, vI x1), (2, vI x2), (3, vI x3), (4, vI x4), (5, vI (m_MO_lookback_L51s_90 h x1 x2 x3 x4 a c5)), (6, vI ((nI a) + 1))] [] h P) : Ev E M_MO_lookback 90 [(0, vR 0 6), (1, vI x1), (2, vI x2), (3, vI x3), (4, vI x4), (5, vI c5), (6, vI (nI a)), (7, vI (f_MO_firstIssue h (nI a) x1))] [vI (m_MO_lookback_L51s_90 h x1 x2 x3 x4 a c5)] h P := by
  refine Ev_istore (pc := 90) d_MO_lookback_90 rfl ?_
  refine Ev_iinc (d := 1) (pc := 92) d_MO_lookback_92 rfl (by decide) rfl ?_
  refine Ev_goto (tgt := 51) (pc := 95) d_MO_lookback_95 rfl ?_
  refine Ev_sub (lsub ?_) k
  exact (And.intro rfl (And.intro rfl (And.intro rfl (And.intro rfl (And.intro rfl (And.intro rfl (And.intro rfl trivial)))))))
theorem c_MO_lookback_L51s {E : ev_E} {P : Option ev_V ⊕ Nat → ev_H → Prop} {h : ev_H} {x1 : Int32} {x2 : Int32} {x3 : Int32} {x4 : Int32} {a : Nat} {c5 : Int32} (q0 : ¬ (gI h 0 6 19) ≤ (nI a)) (n1 : (gI h 0 6 2).toNatClampNeg ≤ 48) (n2 : (gI h 0 6 2) = nI (gI h 0 6 2).toNatClampNeg) (hR : rfs h) (k : Ev E M_MO_lookback 51 [(0, vR 0 6), (1, vI x1), (2, vI x2), (3, vI x3), (4, vI x4), (5, vI (m_MO_lookback_L51s_90 h x1 x2 x3 x4 a c5)), (6, vI ((nI a) + 1))] [] h P) : Ev E M_MO_lookback 51 [(0, vR 0 6), (1, vI x1), (2, vI x2), (3, vI x3), (4, vI x4), (5, vI c5), (6, vI (nI a))] [] h P := by
  refine Ev_iload (pc := 51) d_MO_lookback_51 rfl ?_
  refine Ev_aload_n (pc := 53) d_MO_lookback_53 rfl ?_
  refine Ev_getI (pc := 54) d_MO_lookback_54 rfl rfl rfl fl_MO_81 ?_
  refine Ev_icmp_ge (tgt := 98) (pc := 57) d_MO_lookback_57 rfl (fun q => absurd q q0) (fun _ => ?_)
  refine Ev_aload_n (pc := 60) d_MO_lookback_60 rfl ?_
  refine Ev_iload (pc := 61) d_MO_lookback_61 rfl ?_
  refine Ev_iload_n (pc := 63) d_MO_lookback_63 rfl ?_
  refine Ev_callV (M' := M_MO_firstIssue) (as := [vI (nI a), vI x1]) (st := []) (a := 0) (i := 6) (pc := 64) d_MO_lookback_64 rfl rfl rfl rfl rfl rfl rfl v_MO_firstIssue lk_MO_156 rfl rfl (c_MO_firstIssue n1 n2 hR ?_)
  refine Ev_istore (pc := 67) d_MO_lookback_67 rfl ?_
  refine Ev_iload (pc := 69) d_MO_lookback_69 rfl ?_
  refine Ev_if_le (tgt := 88) (pc := 71) d_MO_lookback_71 rfl (fun q1 => ?_) (fun q1 => ?_)
  · refine Ev_iload (pc := 88) d_MO_lookback_88 rfl ?_
    have j := c_MO_lookback_L51s_90 (E := E) (P := P) (h := h) (x1 := x1) (x2 := x2) (x3 := x3) (x4 := x4) (a := a) (c5 := c5)  k
    rw [m_MO_lookback_L51s_90, if_pos q1] at j
    exact j
  · refine Ev_iload (pc := 74) d_MO_lookback_74 rfl ?_
    refine Ev_iload (pc := 76) d_MO_lookback_76 rfl ?_
    refine Ev_icmp_ge (tgt := 88) (pc := 78) d_MO_lookback_78 rfl (fun q3 => ?_) (fun q3 => ?_)
    · refine Ev_iload (pc := 88) d_MO_lookback_88 rfl ?_
      have j := c_MO_lookback_L51s_90 (E := E) (P := P) (h := h) (x1 := x1) (x2 := x2) (x3 := x3) (x4 := x4) (a := a) (c5 := c5)  k
      rw [m_MO_lookback_L51s_90, if_neg q1, if_pos q3] at j
      exact j
    · refine Ev_iload (pc := 81) d_MO_lookback_81 rfl ?_
      refine Ev_iconst (v := 1) (pc := 83) d_MO_lookback_83 (by decide) ?_
      refine Ev_iadd (pc := 84) d_MO_lookback_84 ?_
      refine Ev_goto (tgt := 90) (pc := 85) d_MO_lookback_85 rfl ?_
      have j := c_MO_lookback_L51s_90 (E := E) (P := P) (h := h) (x1 := x1) (x2 := x2) (x3 := x3) (x4 := x4) (a := a) (c5 := c5)  k
      rw [m_MO_lookback_L51s_90, if_neg q1, if_neg q3] at j
      exact j
def r_MO_lookback_L51 (h : ev_H) (x1 : Int32) (x2 : Int32) (x3 : Int32) (x4 : Int32) : Nat → Int32
  | 0 => 0
  | a + 1 => (m_MO_lookback_L51s_90 h x1 x2 x3 x4 a (r_MO_lookback_L51 h x1 x2 x3 x4 a))
theorem lp_MO_lookback_L51 {E : ev_E} {P : Option ev_V ⊕ Nat → ev_H → Prop} {h : ev_H} {x1 : Int32} {x2 : Int32} {x3 : Int32} {x4 : Int32} (n : Nat) (hn : n ≤ 10) (hb : (gI h 0 6 19) = nI n) (n1 : (gI h 0 6 2).toNatClampNeg ≤ 48) (n2 : (gI h 0 6 2) = nI (gI h 0 6 2).toNatClampNeg) (hR : rfs h) (k : Ev E M_MO_lookback 51 [(0, vR 0 6), (1, vI x1), (2, vI x2), (3, vI x3), (4, vI x4), (5, vI (r_MO_lookback_L51 h x1 x2 x3 x4 n)), (6, vI (nI n))] [] h P) : Ev E M_MO_lookback 51 [(0, vR 0 6), (1, vI x1), (2, vI x2), (3, vI x3), (4, vI x4), (5, vI 0), (6, vI 0)] [] h P := by
  refine Ev_for n (fun a => [(0, vR 0 6), (1, vI x1), (2, vI x2), (3, vI x3), (4, vI x4), (5, vI (r_MO_lookback_L51 h x1 x2 x3 x4 a)), (6, vI (nI a))]) (fun a => h) (fun a ha k => ?_) k
  have k2 : Ev E M_MO_lookback 51 [(0, vR 0 6), (1, vI x1), (2, vI x2), (3, vI x3), (4, vI x4), (5, vI (r_MO_lookback_L51 h x1 x2 x3 x4 (a + 1))), (6, vI (nI (a + 1)))] [] h P := k
  rw [nI_succ] at k2
  exact c_MO_lookback_L51s (by rw [hb]; exact nI_ge ha (Nat.lt_of_le_of_lt hn (by decide))) n1 n2 hR k2
theorem c_MO_lookback_O29s {E : ev_E} {P : Option ev_V ⊕ Nat → ev_H → Prop} {h : ev_H} {x1 : Int32} {x2 : Int32} {a : Nat} (q0 : ¬ (gI h 0 6 19) ≤ (nI a)) (n1 : (gI h 0 6 2).toNatClampNeg ≤ 48) (n2 : (gI h 0 6 2) = nI (gI h 0 6 2).toNatClampNeg) (hR : rfs h) (n4 : (gI h 0 6 19).toNatClampNeg ≤ 10) (n5 : (gI h 0 6 19) = nI (gI h 0 6 19).toNatClampNeg) (k : (¬ ((f_MO_firstIssue h (nI a) x1) ≤ 0) → ((r_MO_lookback_L51 h x1 x2 (nI a) (f_MO_firstIssue h (nI a) x1) (gI h 0 6 19).toNatClampNeg) = x2) → False) → Ev E M_MO_lookback 29 [(0, vR 0 6), (1, vI x1), (2, vI x2), (3, vI ((nI a) + 1))] [] h P) (kr : ¬ ((f_MO_firstIssue h (nI a) x1) ≤ 0) → ((r_MO_lookback_L51 h x1 x2 (nI a) (f_MO_firstIssue h (nI a) x1) (gI h 0 6 19).toNatClampNeg) = x2) → P (.inl (some (vI (nI a)))) h) : Ev E M_MO_lookback 29 [(0, vR 0 6), (1, vI x1), (2, vI x2), (3, vI (nI a))] [] h P := by
  refine Ev_iload_n (pc := 29) d_MO_lookback_29 rfl ?_
  refine Ev_aload_n (pc := 30) d_MO_lookback_30 rfl ?_
  refine Ev_getI (pc := 31) d_MO_lookback_31 rfl rfl rfl fl_MO_81 ?_
  refine Ev_icmp_ge (tgt := 117) (pc := 34) d_MO_lookback_34 rfl (fun q => absurd q q0) (fun _ => ?_)
  refine Ev_aload_n (pc := 37) d_MO_lookback_37 rfl ?_
  refine Ev_iload_n (pc := 38) d_MO_lookback_38 rfl ?_
  refine Ev_iload_n (pc := 39) d_MO_lookback_39 rfl ?_
  refine Ev_callV (M' := M_MO_firstIssue) (as := [vI (nI a), vI x1]) (st := []) (a := 0) (i := 6) (pc := 40) d_MO_lookback_40 rfl rfl rfl rfl rfl rfl rfl v_MO_firstIssue lk_MO_156 rfl rfl (c_MO_firstIssue n1 n2 hR ?_)
  refine Ev_istore (pc := 43) d_MO_lookback_43 rfl ?_
  refine Ev_iconst (v := 0) (pc := 45) d_MO_lookback_45 (by decide) ?_
  refine Ev_istore (pc := 46) d_MO_lookback_46 rfl ?_
  refine Ev_iconst (v := 0) (pc := 48) d_MO_lookback_48 (by decide) ?_
  refine Ev_istore (pc := 49) d_MO_lookback_49 rfl ?_
  refine lp_MO_lookback_L51 ((gI h 0 6 19).toNatClampNeg) n4 n5 n1 n2 hR ?_
  refine Ev_iload (pc := 51) d_MO_lookback_51 rfl ?_
  refine Ev_aload_n (pc := 53) d_MO_lookback_53 rfl ?_
  refine Ev_getI (pc := 54) d_MO_lookback_54 rfl rfl rfl fl_MO_81 ?_
  refine Ev_icmp_ge (tgt := 98) (pc := 57) d_MO_lookback_57 rfl (fun _ => ?_) (fun q => absurd (lpx n5) q)
  refine Ev_iload (pc := 98) d_MO_lookback_98 rfl ?_
  refine Ev_if_le (tgt := 111) (pc := 100) d_MO_lookback_100 rfl (fun q1 => ?_) (fun q1 => ?_)
  · refine Ev_iinc (d := 1) (pc := 111) d_MO_lookback_111 rfl (by decide) rfl ?_
    refine Ev_goto (tgt := 29) (pc := 114) d_MO_lookback_114 rfl ?_
    refine Ev_sub (lsub ?_) (k (fun z0 z1 => absurd q1 z0))
    exact (And.intro rfl (And.intro rfl (And.intro rfl (And.intro rfl trivial))))
  · refine Ev_iload (pc := 103) d_MO_lookback_103 rfl ?_
    refine Ev_iload_n (pc := 105) d_MO_lookback_105 rfl ?_
    refine Ev_icmp_ne (tgt := 111) (pc := 106) d_MO_lookback_106 rfl (fun q2 => ?_) (fun q2 => ?_)
    · refine Ev_iinc (d := 1) (pc := 111) d_MO_lookback_111 rfl (by decide) rfl ?_
      refine Ev_goto (tgt := 29) (pc := 114) d_MO_lookback_114 rfl ?_
      refine Ev_sub (lsub ?_) (k (fun z0 z1 => absurd z1 q2))
      exact (And.intro rfl (And.intro rfl (And.intro rfl (And.intro rfl trivial))))
    · refine Ev_iload_n (pc := 109) d_MO_lookback_109 rfl ?_
      refine Ev_ireturn (pc := 110) d_MO_lookback_110 rfl rfl ?_
      exact kr q1 q2
theorem c_MO_lookback_O29f {E : ev_E} {P : Option ev_V ⊕ Nat → ev_H → Prop} {h : ev_H} {x1 : Int32} {x2 : Int32} {n : Nat} (q0 : (gI h 0 6 19) ≤ (nI n)) (k : P (.inl (some (vI (-1)))) h) : Ev E M_MO_lookback 29 [(0, vR 0 6), (1, vI x1), (2, vI x2), (3, vI (nI n))] [] h P := by
  refine Ev_iload_n (pc := 29) d_MO_lookback_29 rfl ?_
  refine Ev_aload_n (pc := 30) d_MO_lookback_30 rfl ?_
  refine Ev_getI (pc := 31) d_MO_lookback_31 rfl rfl rfl fl_MO_81 ?_
  refine Ev_icmp_ge (tgt := 117) (pc := 34) d_MO_lookback_34 rfl (fun _ => ?_) (fun q => absurd q0 q)
  refine Ev_iconst (v := -1) (pc := 117) d_MO_lookback_117 (by decide) ?_
  refine Ev_ireturn (pc := 118) d_MO_lookback_118 rfl rfl ?_
  exact k
def res_MO_lookback_O29_c (h : ev_H) (x1 : Int32) (x2 : Int32) (a : Nat) : Prop := ¬ ((f_MO_firstIssue h (nI a) x1) ≤ 0) ∧ ((r_MO_lookback_L51 h x1 x2 (nI a) (f_MO_firstIssue h (nI a) x1) (gI h 0 6 19).toNatClampNeg) = x2)
noncomputable def res_MO_lookback_O29 (h : ev_H) (x1 : Int32) (x2 : Int32) (n : Nat) : Nat → Int32
  | 0 => -1
  | d + 1 => @ite _ (res_MO_lookback_O29_c h x1 x2 (n - (d + 1))) (Classical.propDecidable _) (nI (n - (d + 1))) (res_MO_lookback_O29 h x1 x2 n d)
theorem lp_MO_lookback_O29 {E : ev_E} {P : Option ev_V ⊕ Nat → ev_H → Prop} {h : ev_H} {x1 : Int32} {x2 : Int32} (n : Nat) (hn : n ≤ 10) (hb : (gI h 0 6 19) = nI n) (n1 : (gI h 0 6 2).toNatClampNeg ≤ 48) (n2 : (gI h 0 6 2) = nI (gI h 0 6 2).toNatClampNeg) (hR : rfs h) (n4 : (gI h 0 6 19).toNatClampNeg ≤ 10) (n5 : (gI h 0 6 19) = nI (gI h 0 6 19).toNatClampNeg) : ∀ d, d ≤ n → P (.inl (some (vI (res_MO_lookback_O29 h x1 x2 n d)))) h → Ev E M_MO_lookback 29 [(0, vR 0 6), (1, vI x1), (2, vI x2), (3, vI (nI (n - d)))] [] h P := by
  intro d
  induction d with
  | zero => exact fun _ k => c_MO_lookback_O29f (lpx hb) k
  | succ d ih =>
    intro hd k
    have ha : n - (d + 1) < n := by omega
    have e1 : nI (n - d) = nI (n - (d + 1)) + 1 := by rw [← nI_succ]; congr 1; omega
    by_cases hc : res_MO_lookback_O29_c h x1 x2 (n - (d + 1))
    · rw [res_MO_lookback_O29, if_pos hc] at k
      refine c_MO_lookback_O29s (by rw [hb]; exact nI_ge ha (Nat.lt_of_le_of_lt hn (by decide))) n1 n2 hR n4 n5 (fun z => ?_) (fun _ _ => k)
      unfold res_MO_lookback_O29_c at hc
      exact (z hc.1 hc.2).elim
    · rw [res_MO_lookback_O29, if_neg hc] at k
      refine c_MO_lookback_O29s (by rw [hb]; exact nI_ge ha (Nat.lt_of_le_of_lt hn (by decide))) n1 n2 hR n4 n5 (fun _ => ?_) (fun z0 z1 => absurd (show res_MO_lookback_O29_c h x1 x2 (n - (d + 1)) from ⟨z0, z1⟩) hc)
      have k2 := ih (by omega) k
      rw [e1] at k2
      exact k2
theorem lq_MO_lookback_O29 {E : ev_E} {P : Option ev_V ⊕ Nat → ev_H → Prop} {h : ev_H} {x1 : Int32} {x2 : Int32} (n : Nat) (hn : n ≤ 10) (hb : (gI h 0 6 19) = nI n) (n1 : (gI h 0 6 2).toNatClampNeg ≤ 48) (n2 : (gI h 0 6 2) = nI (gI h 0 6 2).toNatClampNeg) (hR : rfs h) (n4 : (gI h 0 6 19).toNatClampNeg ≤ 10) (n5 : (gI h 0 6 19) = nI (gI h 0 6 19).toNatClampNeg) (k : P (.inl (some (vI (res_MO_lookback_O29 h x1 x2 n n)))) h) : Ev E M_MO_lookback 29 [(0, vR 0 6), (1, vI x1), (2, vI x2), (3, vI 0)] [] h P := by
  have k2 := lp_MO_lookback_O29 (E := E) (P := P) n hn hb n1 n2 hR n4 n5 n (Nat.le_refl _) k
  rw [Nat.sub_self] at k2
  exact k2
def m_MO_lookback_16 (x1 : Int32) (x2 : Int32) : Int32 := (if (f_MO_in x1 0 15) = 0 then 1 else 0)
noncomputable def f_MO_lookback_16 (h : ev_H) (x1 : Int32) (x2 : Int32) : Int32 × ev_H := ((if ((f_MO_refused h (m_MO_lookback_16 x1 x2) 0 0 0).1) = 0 then (res_MO_lookback_O29 ((f_MO_refused h (m_MO_lookback_16 x1 x2) 0 0 0).2) x1 x2 (gI ((f_MO_refused h (m_MO_lookback_16 x1 x2) 0 0 0).2) 0 6 19).toNatClampNeg (gI ((f_MO_refused h (m_MO_lookback_16 x1 x2) 0 0 0).2) 0 6 19).toNatClampNeg) else 0), ((f_MO_refused h (m_MO_lookback_16 x1 x2) 0 0 0).2))
theorem c_MO_lookback_16 {E : ev_E} {P : Option ev_V ⊕ Nat → ev_H → Prop} {h : ev_H} {x1 : Int32} {x2 : Int32} (n0 : (gI h 0 6 19).toNatClampNeg ≤ 10) (n1 : (gI h 0 6 19) = nI (gI h 0 6 19).toNatClampNeg) (n2 : (gI h 0 6 2).toNatClampNeg ≤ 48) (n3 : (gI h 0 6 2) = nI (gI h 0 6 2).toNatClampNeg) (hR : rfs h) (k : P (.inl (some (vI (f_MO_lookback_16 h x1 x2).1))) (f_MO_lookback_16 h x1 x2).2) : Ev E M_MO_lookback 16 [(0, vR 0 6), (1, vI x1), (2, vI x2)] [vI (m_MO_lookback_16 x1 x2), vR 0 6] h P := by
  refine Ev_iconst (v := 0) (pc := 16) d_MO_lookback_16 (by decide) ?_
  refine Ev_iconst (v := 0) (pc := 17) d_MO_lookback_17 (by decide) ?_
  refine Ev_iconst (v := 0) (pc := 18) d_MO_lookback_18 (by decide) ?_
  refine Ev_callV (M' := M_MO_refused) (as := [vI (m_MO_lookback_16 x1 x2), vI 0, vI 0, vI 0]) (st := []) (a := 0) (i := 6) (pc := 19) d_MO_lookback_19 rfl rfl rfl rfl rfl rfl rfl v_MO_refused lk_MO_85 rfl rfl (c_MO_refused  ?_)
  refine Ev_if_eq (tgt := 27) (pc := 22) d_MO_lookback_22 rfl (fun q2 => ?_) (fun q2 => ?_)
  · refine Ev_iconst (v := 0) (pc := 27) d_MO_lookback_27 (by decide) ?_
    refine Ev_istore_n (pc := 28) d_MO_lookback_28 rfl ?_
    refine lq_MO_lookback_O29 ((gI ((f_MO_refused h (m_MO_lookback_16 x1 x2) 0 0 0).2) 0 6 19).toNatClampNeg) n0 n1 n2 n3 hR n0 n1 ?_
    simp only [f_MO_lookback_16, if_pos q2] at k
    exact k
  · refine Ev_iconst (v := 0) (pc := 25) d_MO_lookback_25 (by decide) ?_
    refine Ev_ireturn (pc := 26) d_MO_lookback_26 rfl rfl ?_
    simp only [f_MO_lookback_16, if_neg q2] at k
    exact k
noncomputable def f_MO_lookback (h : ev_H) (x1 : Int32) (x2 : Int32) : Int32 × ev_H := f_MO_lookback_16 h x1 x2
theorem c_MO_lookback {E : ev_E} {P : Option ev_V ⊕ Nat → ev_H → Prop} {h : ev_H} {x1 : Int32} {x2 : Int32} (n0 : (gI h 0 6 19).toNatClampNeg ≤ 10) (n1 : (gI h 0 6 19) = nI (gI h 0 6 19).toNatClampNeg) (n2 : (gI h 0 6 2).toNatClampNeg ≤ 48) (n3 : (gI h 0 6 2) = nI (gI h 0 6 2).toNatClampNeg) (hR : rfs h) (k : P (.inl (some (vI (f_MO_lookback h x1 x2).1))) (f_MO_lookback h x1 x2).2) : Ev E M_MO_lookback 0 [(0, vR 0 6), (1, vI x1), (2, vI x2)] [] h P := by
  refine Ev_aload_n (pc := 0) d_MO_lookback_0 rfl ?_
  refine Ev_iload_n (pc := 1) d_MO_lookback_1 rfl ?_
  refine Ev_iconst (v := 0) (pc := 2) d_MO_lookback_2 (by decide) ?_
  refine Ev_bipush (v := 15) (pc := 3) d_MO_lookback_3 (by decide) ?_
  refine Ev_callS (M' := M_MO_in) (as := [vI x1, vI 0, vI 15]) (st := [vR 0 6]) (pc := 5) d_MO_lookback_5 rfl rfl rfl s_MO_in lk_MO_77 rfl rfl (c_MO_in  ?_)
  refine Ev_if_ne (tgt := 15) (pc := 8) d_MO_lookback_8 rfl (fun q1 => ?_) (fun q1 => ?_)
  · refine Ev_iconst (v := 0) (pc := 15) d_MO_lookback_15 (by decide) ?_
    rw [f_MO_lookback] at k
    have j := c_MO_lookback_16 (E := E) (P := P) (h := h) (x1 := x1) (x2 := x2) n0 n1 n2 n3 hR k
    rw [m_MO_lookback_16, if_neg q1] at j
    exact j
  · refine Ev_iconst (v := 1) (pc := 11) d_MO_lookback_11 (by decide) ?_
    refine Ev_goto (tgt := 16) (pc := 12) d_MO_lookback_12 rfl ?_
    rw [f_MO_lookback] at k
    have j := c_MO_lookback_16 (E := E) (P := P) (h := h) (x1 := x1) (x2 := x2) n0 n1 n2 n3 hR k
    rw [m_MO_lookback_16, if_pos q1] at j
    exact j
def m_MO_issue_11_66 (h : ev_H) (x1 : Int32) (x2 : Int32) : Int32 := (if (f_MO_mayGo h x1 x2) = 0 then 0 else (if (gI h 0 21 x1.toNatClampNeg) < 0 then 0 else (if 4320 ≤ ((gI h 0 6 1) - (gI h 0 22 x1.toNatClampNeg)) then 0 else 1)))
def m_MO_issue_11_88 (h : ev_H) (x1 : Int32) (x2 : Int32) : Int32 := (if (m_MO_issue_11_66 h x1 x2) = 0 then 1 else 0)
def m_MO_issue_11_116 (h : ev_H) (x1 : Int32) (x2 : Int32) : Int32 := (if (m_MO_issue_11_66 h x1 x2) = 0 then 0 else (if (f_MO_reasonFor h x1 x2) = 0 then (if (f_MO_isMatched h x1 x2) = 0 then 1 else 0) else 1))
def f_MO_issue_11_116 (h : ev_H) (x1 : Int32) (x2 : Int32) : Int32 × ev_H := ((if ((f_MO_refused h 0 (m_MO_issue_11_88 h x1 x2) (m_MO_issue_11_116 h x1 x2) 0).1) = 0 then ((f_MO_go ((f_MO_refused h 0 (m_MO_issue_11_88 h x1 x2) (m_MO_issue_11_116 h x1 x2) 0).2) x1 x2 0).1) else 0), (if ((f_MO_refused h 0 (m_MO_issue_11_88 h x1 x2) (m_MO_issue_11_116 h x1 x2) 0).1) = 0 then ((f_MO_go ((f_MO_refused h 0 (m_MO_issue_11_88 h x1 x2) (m_MO_issue_11_116 h x1 x2) 0).2) x1 x2 0).2) else ((f_MO_refused h 0 (m_MO_issue_11_88 h x1 x2) (m_MO_issue_11_116 h x1 x2) 0).2)))
theorem c_MO_issue_11_116 {E : ev_E} {P : Option ev_V ⊕ Nat → ev_H → Prop} {h : ev_H} {x1 : Int32} {x2 : Int32} (hR : rfs h) (n1 : ¬ x2 < 0) (n2 : x2.toNatClampNeg < 48) (n3 : (gI h 0 6 2).toNatClampNeg ≤ 48) (n4 : (gI h 0 6 2) = nI (gI h 0 6 2).toNatClampNeg) (k : P (.inl (some (vI (f_MO_issue_11_116 h x1 x2).1))) (f_MO_issue_11_116 h x1 x2).2) : Ev E M_MO_issue 116 [(0, vR 0 6), (1, vI x1), (2, vI x2), (3, vI 1), (4, vI (m_MO_issue_11_66 h x1 x2))] [vI (m_MO_issue_11_116 h x1 x2), vI (m_MO_issue_11_88 h x1 x2), vI 0, vR 0 6] h P := by
  refine Ev_iconst (v := 0) (pc := 116) d_MO_issue_116 (by decide) ?_
  refine Ev_callV (M' := M_MO_refused) (as := [vI 0, vI (m_MO_issue_11_88 h x1 x2), vI (m_MO_issue_11_116 h x1 x2), vI 0]) (st := []) (a := 0) (i := 6) (pc := 117) d_MO_issue_117 rfl rfl rfl rfl rfl rfl rfl v_MO_refused lk_MO_85 rfl rfl (c_MO_refused  ?_)
  refine Ev_if_eq (tgt := 125) (pc := 120) d_MO_issue_120 rfl (fun q8 => ?_) (fun q8 => ?_)
  · refine Ev_aload_n (pc := 125) d_MO_issue_125 rfl ?_
    refine Ev_iload_n (pc := 126) d_MO_issue_126 rfl ?_
    refine Ev_iload_n (pc := 127) d_MO_issue_127 rfl ?_
    refine Ev_iconst (v := 0) (pc := 128) d_MO_issue_128 (by decide) ?_
    refine Ev_callV (M' := M_MO_go) (as := [vI x1, vI x2, vI 0]) (st := []) (a := 0) (i := 6) (pc := 129) d_MO_issue_129 rfl rfl rfl rfl rfl rfl rfl v_MO_go lk_MO_140 rfl rfl (c_MO_go hR n1 n2 n3 n4 ?_)
    refine Ev_ireturn (pc := 132) d_MO_issue_132 rfl rfl ?_
    simp only [f_MO_issue_11_116, if_pos q8] at k
    exact k
  · refine Ev_iconst (v := 0) (pc := 123) d_MO_issue_123 (by decide) ?_
    refine Ev_ireturn (pc := 124) d_MO_issue_124 rfl rfl ?_
    simp only [f_MO_issue_11_116, if_neg q8] at k
    exact k
def f_MO_issue_11_88 (h : ev_H) (x1 : Int32) (x2 : Int32) : Int32 × ev_H := f_MO_issue_11_116 h x1 x2
theorem c_MO_issue_11_88 {E : ev_E} {P : Option ev_V ⊕ Nat → ev_H → Prop} {h : ev_H} {x1 : Int32} {x2 : Int32} (hR : rfs h) (n1 : ¬ x2 < 0) (n2 : x2.toNatClampNeg < 48) (n3 : (gI h 0 6 2).toNatClampNeg ≤ 48) (n4 : (gI h 0 6 2) = nI (gI h 0 6 2).toNatClampNeg) (n5 : ¬ x1 < 0) (n6 : x1.toNatClampNeg < 10) (n7 : ¬ ((48 * x1) + x2) < 0) (n8 : ((48 * x1) + x2).toNatClampNeg < 480) (k : P (.inl (some (vI (f_MO_issue_11_88 h x1 x2).1))) (f_MO_issue_11_88 h x1 x2).2) : Ev E M_MO_issue 88 [(0, vR 0 6), (1, vI x1), (2, vI x2), (3, vI 1), (4, vI (m_MO_issue_11_66 h x1 x2))] [vI (m_MO_issue_11_88 h x1 x2), vI 0, vR 0 6] h P := by
  refine Ev_iload (pc := 88) d_MO_issue_88 rfl ?_
  refine Ev_if_eq (tgt := 115) (pc := 90) d_MO_issue_90 rfl (fun q5 => ?_) (fun q5 => ?_)
  · refine Ev_iconst (v := 0) (pc := 115) d_MO_issue_115 (by decide) ?_
    rw [f_MO_issue_11_88] at k
    have j := c_MO_issue_11_116 (E := E) (P := P) (h := h) (x1 := x1) (x2 := x2) hR n1 n2 n3 n4 k
    rw [m_MO_issue_11_116, if_pos q5] at j
    exact j
  · refine Ev_aload_n (pc := 93) d_MO_issue_93 rfl ?_
    refine Ev_iload_n (pc := 94) d_MO_issue_94 rfl ?_
    refine Ev_iload_n (pc := 95) d_MO_issue_95 rfl ?_
    refine Ev_callV (M' := M_MO_reasonFor) (as := [vI x1, vI x2]) (st := [vI (m_MO_issue_11_88 h x1 x2), vI 0, vR 0 6]) (a := 0) (i := 6) (pc := 96) d_MO_issue_96 rfl rfl rfl rfl rfl rfl rfl v_MO_reasonFor lk_MO_127 rfl rfl (c_MO_reasonFor hR n1 n2 n5 n6 ?_)
    refine Ev_if_ne (tgt := 111) (pc := 99) d_MO_issue_99 rfl (fun q9 => ?_) (fun q9 => ?_)
    · refine Ev_iconst (v := 1) (pc := 111) d_MO_issue_111 (by decide) ?_
      refine Ev_goto (tgt := 116) (pc := 112) d_MO_issue_112 rfl ?_
      rw [f_MO_issue_11_88] at k
      have j := c_MO_issue_11_116 (E := E) (P := P) (h := h) (x1 := x1) (x2 := x2) hR n1 n2 n3 n4 k
      rw [m_MO_issue_11_116, if_neg q5, if_neg q9] at j
      exact j
    · refine Ev_aload_n (pc := 102) d_MO_issue_102 rfl ?_
      refine Ev_iload_n (pc := 103) d_MO_issue_103 rfl ?_
      refine Ev_iload_n (pc := 104) d_MO_issue_104 rfl ?_
      refine Ev_callV (M' := M_MO_isMatched) (as := [vI x1, vI x2]) (st := [vI (m_MO_issue_11_88 h x1 x2), vI 0, vR 0 6]) (a := 0) (i := 6) (pc := 105) d_MO_issue_105 rfl rfl rfl rfl rfl rfl rfl v_MO_isMatched lk_MO_131 rfl rfl (c_MO_isMatched hR n7 n8 n1 n2 ?_)
      refine Ev_if_ne (tgt := 115) (pc := 108) d_MO_issue_108 rfl (fun q10 => ?_) (fun q10 => ?_)
      · refine Ev_iconst (v := 0) (pc := 115) d_MO_issue_115 (by decide) ?_
        rw [f_MO_issue_11_88] at k
        have j := c_MO_issue_11_116 (E := E) (P := P) (h := h) (x1 := x1) (x2 := x2) hR n1 n2 n3 n4 k
        rw [m_MO_issue_11_116, if_neg q5, if_pos q9, if_neg q10] at j
        exact j
      · refine Ev_iconst (v := 1) (pc := 111) d_MO_issue_111 (by decide) ?_
        refine Ev_goto (tgt := 116) (pc := 112) d_MO_issue_112 rfl ?_
        rw [f_MO_issue_11_88] at k
        have j := c_MO_issue_11_116 (E := E) (P := P) (h := h) (x1 := x1) (x2 := x2) hR n1 n2 n3 n4 k
        rw [m_MO_issue_11_116, if_neg q5, if_pos q9, if_pos q10] at j
        exact j
def f_MO_issue_11_66 (h : ev_H) (x1 : Int32) (x2 : Int32) : Int32 × ev_H := f_MO_issue_11_88 h x1 x2
theorem c_MO_issue_11_66 {E : ev_E} {P : Option ev_V ⊕ Nat → ev_H → Prop} {h : ev_H} {x1 : Int32} {x2 : Int32} (hR : rfs h) (n1 : ¬ x2 < 0) (n2 : x2.toNatClampNeg < 48) (n3 : (gI h 0 6 2).toNatClampNeg ≤ 48) (n4 : (gI h 0 6 2) = nI (gI h 0 6 2).toNatClampNeg) (n5 : ¬ x1 < 0) (n6 : x1.toNatClampNeg < 10) (n7 : ¬ ((48 * x1) + x2) < 0) (n8 : ((48 * x1) + x2).toNatClampNeg < 480) (k : P (.inl (some (vI (f_MO_issue_11_66 h x1 x2).1))) (f_MO_issue_11_66 h x1 x2).2) : Ev E M_MO_issue 66 [(0, vR 0 6), (1, vI x1), (2, vI x2), (3, vI 1)] [vI (m_MO_issue_11_66 h x1 x2)] h P := by
  refine Ev_istore (pc := 66) d_MO_issue_66 rfl ?_
  refine Ev_aload_n (pc := 68) d_MO_issue_68 rfl ?_
  refine Ev_iload_n (pc := 69) d_MO_issue_69 rfl ?_
  refine Ev_if_ne (tgt := 77) (pc := 70) d_MO_issue_70 rfl (fun _ => ?_) (fun q => absurd q (by decide))
  refine Ev_iconst (v := 0) (pc := 77) d_MO_issue_77 (by decide) ?_
  refine Ev_iload (pc := 78) d_MO_issue_78 rfl ?_
  refine Ev_if_ne (tgt := 87) (pc := 80) d_MO_issue_80 rfl (fun q4 => ?_) (fun q4 => ?_)
  · refine Ev_iconst (v := 0) (pc := 87) d_MO_issue_87 (by decide) ?_
    rw [f_MO_issue_11_66] at k
    have j := c_MO_issue_11_88 (E := E) (P := P) (h := h) (x1 := x1) (x2 := x2) hR n1 n2 n3 n4 n5 n6 n7 n8 k
    rw [m_MO_issue_11_88, if_neg q4] at j
    exact j
  · refine Ev_iconst (v := 1) (pc := 83) d_MO_issue_83 (by decide) ?_
    refine Ev_goto (tgt := 88) (pc := 84) d_MO_issue_84 rfl ?_
    rw [f_MO_issue_11_66] at k
    have j := c_MO_issue_11_88 (E := E) (P := P) (h := h) (x1 := x1) (x2 := x2) hR n1 n2 n3 n4 n5 n6 n7 n8 k
    rw [m_MO_issue_11_88, if_pos q4] at j
    exact j
def f_MO_issue_11 (h : ev_H) (x1 : Int32) (x2 : Int32) : Int32 × ev_H := f_MO_issue_11_66 h x1 x2
theorem c_MO_issue_11 {E : ev_E} {P : Option ev_V ⊕ Nat → ev_H → Prop} {h : ev_H} {x1 : Int32} {x2 : Int32} (v0 : f_MO_isPatient h x1 = 1) (v1 : f_MO_isUnit h x2 = 1) (hR : rfs h) (n3 : ¬ x2 < 0) (n4 : x2.toNatClampNeg < 48) (n5 : ¬ x1 < 0) (n6 : x1.toNatClampNeg < 10) (n7 : (gI h 0 6 2).toNatClampNeg ≤ 48) (n8 : (gI h 0 6 2) = nI (gI h 0 6 2).toNatClampNeg) (n9 : ¬ ((48 * x1) + x2) < 0) (n10 : ((48 * x1) + x2).toNatClampNeg < 480) (k : P (.inl (some (vI (f_MO_issue_11 h x1 x2).1))) (f_MO_issue_11 h x1 x2).2) : Ev E M_MO_issue 0 [(0, vR 0 6), (1, vI x1), (2, vI x2)] [] h P := by
  refine Ev_aload_n (pc := 0) d_MO_issue_0 rfl ?_
  refine Ev_iload_n (pc := 1) d_MO_issue_1 rfl ?_
  refine Ev_callV (M' := M_MO_isPatient) (as := [vI x1]) (st := []) (a := 0) (i := 6) (pc := 2) d_MO_issue_2 rfl rfl rfl rfl rfl rfl rfl v_MO_isPatient lk_MO_121 rfl rfl (c_MO_isPatientV (v := 1) v0 ?_)
  refine Ev_if_eq (tgt := 20) (pc := 5) d_MO_issue_5 rfl (fun q => absurd q (by decide)) (fun _ => ?_)
  refine Ev_aload_n (pc := 8) d_MO_issue_8 rfl ?_
  refine Ev_iload_n (pc := 9) d_MO_issue_9 rfl ?_
  refine Ev_callV (M' := M_MO_isUnit) (as := [vI x2]) (st := []) (a := 0) (i := 6) (pc := 10) d_MO_issue_10 rfl rfl rfl rfl rfl rfl rfl v_MO_isUnit lk_MO_111 rfl rfl (c_MO_isUnitV (v := 1) v1 ?_)
  refine Ev_if_eq (tgt := 20) (pc := 13) d_MO_issue_13 rfl (fun q => absurd q (by decide)) (fun _ => ?_)
  refine Ev_iconst (v := 1) (pc := 16) d_MO_issue_16 (by decide) ?_
  refine Ev_goto (tgt := 21) (pc := 17) d_MO_issue_17 rfl ?_
  refine Ev_istore_n (pc := 21) d_MO_issue_21 rfl ?_
  refine Ev_iload_n (pc := 22) d_MO_issue_22 rfl ?_
  refine Ev_if_eq (tgt := 65) (pc := 23) d_MO_issue_23 rfl (fun q => absurd q (by decide)) (fun _ => ?_)
  refine Ev_aload_n (pc := 26) d_MO_issue_26 rfl ?_
  refine Ev_iload_n (pc := 27) d_MO_issue_27 rfl ?_
  refine Ev_iload_n (pc := 28) d_MO_issue_28 rfl ?_
  refine Ev_callV (M' := M_MO_mayGo) (as := [vI x1, vI x2]) (st := []) (a := 0) (i := 6) (pc := 29) d_MO_issue_29 rfl rfl rfl rfl rfl rfl rfl v_MO_mayGo lk_MO_137 rfl rfl (c_MO_mayGo hR n3 n4 n5 n6 ?_)
  refine Ev_if_eq (tgt := 65) (pc := 32) d_MO_issue_32 rfl (fun q1 => ?_) (fun q1 => ?_)
  · refine Ev_iconst (v := 0) (pc := 65) d_MO_issue_65 (by decide) ?_
    rw [f_MO_issue_11] at k
    have j := c_MO_issue_11_66 (E := E) (P := P) (h := h) (x1 := x1) (x2 := x2) hR n3 n4 n7 n8 n5 n6 n9 n10 k
    rw [m_MO_issue_11_66, if_pos q1] at j
    exact j
  · refine Ev_aload_n (pc := 35) d_MO_issue_35 rfl ?_
    refine Ev_getR (pc := 36) d_MO_issue_36 rfl rfl rfl fl_MO_52 (rf_MO_20 hR) ?_
    refine Ev_iload_n (pc := 39) d_MO_issue_39 rfl ?_
    refine Ev_iald (pc := 40) d_MO_issue_40 rfl rfl n5 n6 ?_
    refine Ev_if_lt (tgt := 65) (pc := 41) d_MO_issue_41 rfl (fun q11 => ?_) (fun q11 => ?_)
    · refine Ev_iconst (v := 0) (pc := 65) d_MO_issue_65 (by decide) ?_
      rw [f_MO_issue_11] at k
      have j := c_MO_issue_11_66 (E := E) (P := P) (h := h) (x1 := x1) (x2 := x2) hR n3 n4 n7 n8 n5 n6 n9 n10 k
      rw [m_MO_issue_11_66, if_neg q1, if_pos q11] at j
      exact j
    · refine Ev_aload_n (pc := 44) d_MO_issue_44 rfl ?_
      refine Ev_getI (pc := 45) d_MO_issue_45 rfl rfl rfl fl_MO_89 ?_
      refine Ev_aload_n (pc := 48) d_MO_issue_48 rfl ?_
      refine Ev_getR (pc := 49) d_MO_issue_49 rfl rfl rfl fl_MO_55 (rf_MO_21 hR) ?_
      refine Ev_iload_n (pc := 52) d_MO_issue_52 rfl ?_
      refine Ev_iald (pc := 53) d_MO_issue_53 rfl rfl n5 n6 ?_
      refine Ev_isub (pc := 54) d_MO_issue_54 ?_
      refine Ev_sipush (v := 4320) (pc := 55) d_MO_issue_55 (by decide) ?_
      refine Ev_icmp_ge (tgt := 65) (pc := 58) d_MO_issue_58 rfl (fun q12 => ?_) (fun q12 => ?_)
      · refine Ev_iconst (v := 0) (pc := 65) d_MO_issue_65 (by decide) ?_
        rw [f_MO_issue_11] at k
        have j := c_MO_issue_11_66 (E := E) (P := P) (h := h) (x1 := x1) (x2 := x2) hR n3 n4 n7 n8 n5 n6 n9 n10 k
        rw [m_MO_issue_11_66, if_neg q1, if_neg q11, if_pos q12] at j
        exact j
      · refine Ev_iconst (v := 1) (pc := 61) d_MO_issue_61 (by decide) ?_
        refine Ev_goto (tgt := 66) (pc := 62) d_MO_issue_62 rfl ?_
        rw [f_MO_issue_11] at k
        have j := c_MO_issue_11_66 (E := E) (P := P) (h := h) (x1 := x1) (x2 := x2) hR n3 n4 n7 n8 n5 n6 n9 n10 k
        rw [m_MO_issue_11_66, if_neg q1, if_neg q11, if_neg q12] at j
        exact j
def m_MO_emergency_11_42 (h : ev_H) (x1 : Int32) (x2 : Int32) (x3 : Int32) : Int32 := (if (f_MO_mayGo h x1 x2) = 0 then 0 else 1)
def m_MO_emergency_11_92 (h : ev_H) (x1 : Int32) (x2 : Int32) (x3 : Int32) : Int32 := (if (gI h 0 7 x2.toNatClampNeg) = 0 then (if (gI h 0 8 x2.toNatClampNeg) = 0 then 1 else (if (gI h 0 7 x2.toNatClampNeg) = 1 then (if (gI h 0 8 x2.toNatClampNeg) = 3 then 1 else 0) else 0)) else (if (gI h 0 7 x2.toNatClampNeg) = 1 then (if (gI h 0 8 x2.toNatClampNeg) = 3 then 1 else 0) else 0))
def m_MO_emergency_11_121 (x1 : Int32) (x2 : Int32) (x3 : Int32) : Int32 := (if (f_MO_in x3 1 999) = 0 then 1 else 0)
def m_MO_emergency_11_131 (h : ev_H) (x1 : Int32) (x2 : Int32) (x3 : Int32) : Int32 := (if (m_MO_emergency_11_42 h x1 x2 x3) = 0 then 1 else 0)
def m_MO_emergency_11_155 (h : ev_H) (x1 : Int32) (x2 : Int32) (x3 : Int32) : Int32 := (if (m_MO_emergency_11_42 h x1 x2 x3) = 0 then 0 else (if (m_MO_emergency_11_92 h x1 x2 x3) = 0 then 1 else (if (f_MO_reasonFor h x1 x2) = 0 then 0 else 1)))
def f_MO_emergency_11_155 (h : ev_H) (x1 : Int32) (x2 : Int32) (x3 : Int32) : Int32 × ev_H := ((if ((f_MO_refused h 0 (m_MO_emergency_11_121 x1 x2 x3) (m_MO_emergency_11_131 h x1 x2 x3) (m_MO_emergency_11_155 h x1 x2 x3)).1) = 0 then ((f_MO_go ((f_MO_refused h 0 (m_MO_emergency_11_121 x1 x2 x3) (m_MO_emergency_11_131 h x1 x2 x3) (m_MO_emergency_11_155 h x1 x2 x3)).2) x1 x2 x3).1) else 0), (if ((f_MO_refused h 0 (m_MO_emergency_11_121 x1 x2 x3) (m_MO_emergency_11_131 h x1 x2 x3) (m_MO_emergency_11_155 h x1 x2 x3)).1) = 0 then ((f_MO_go ((f_MO_refused h 0 (m_MO_emergency_11_121 x1 x2 x3) (m_MO_emergency_11_131 h x1 x2 x3) (m_MO_emergency_11_155 h x1 x2 x3)).2) x1 x2 x3).2) else ((f_MO_refused h 0 (m_MO_emergency_11_121 x1 x2 x3) (m_MO_emergency_11_131 h x1 x2 x3) (m_MO_emergency_11_155 h x1 x2 x3)).2)))
theorem c_MO_emergency_11_155 {E : ev_E} {P : Option ev_V ⊕ Nat → ev_H → Prop} {h : ev_H} {x1 : Int32} {x2 : Int32} {x3 : Int32} (hR : rfs h) (n1 : ¬ x2 < 0) (n2 : x2.toNatClampNeg < 48) (n3 : (gI h 0 6 2).toNatClampNeg ≤ 48) (n4 : (gI h 0 6 2) = nI (gI h 0 6 2).toNatClampNeg) (k : P (.inl (some (vI (f_MO_emergency_11_155 h x1 x2 x3).1))) (f_MO_emergency_11_155 h x1 x2 x3).2) : Ev E M_MO_emergency 155 [(0, vR 0 6), (1, vI x1), (2, vI x2), (3, vI x3), (4, vI 1), (5, vI (m_MO_emergency_11_42 h x1 x2 x3)), (6, vI (m_MO_emergency_11_92 h x1 x2 x3))] [vI (m_MO_emergency_11_155 h x1 x2 x3), vI (m_MO_emergency_11_131 h x1 x2 x3), vI (m_MO_emergency_11_121 x1 x2 x3), vI 0, vR 0 6] h P := by
  refine Ev_callV (M' := M_MO_refused) (as := [vI 0, vI (m_MO_emergency_11_121 x1 x2 x3), vI (m_MO_emergency_11_131 h x1 x2 x3), vI (m_MO_emergency_11_155 h x1 x2 x3)]) (st := []) (a := 0) (i := 6) (pc := 155) d_MO_emergency_155 rfl rfl rfl rfl rfl rfl rfl v_MO_refused lk_MO_85 rfl rfl (c_MO_refused  ?_)
  refine Ev_if_eq (tgt := 163) (pc := 158) d_MO_emergency_158 rfl (fun q13 => ?_) (fun q13 => ?_)
  · refine Ev_aload_n (pc := 163) d_MO_emergency_163 rfl ?_
    refine Ev_iload_n (pc := 164) d_MO_emergency_164 rfl ?_
    refine Ev_iload_n (pc := 165) d_MO_emergency_165 rfl ?_
    refine Ev_iload_n (pc := 166) d_MO_emergency_166 rfl ?_
    refine Ev_callV (M' := M_MO_go) (as := [vI x1, vI x2, vI x3]) (st := []) (a := 0) (i := 6) (pc := 167) d_MO_emergency_167 rfl rfl rfl rfl rfl rfl rfl v_MO_go lk_MO_140 rfl rfl (c_MO_go hR n1 n2 n3 n4 ?_)
    refine Ev_ireturn (pc := 170) d_MO_emergency_170 rfl rfl ?_
    simp only [f_MO_emergency_11_155, if_pos q13] at k
    exact k
  · refine Ev_iconst (v := 0) (pc := 161) d_MO_emergency_161 (by decide) ?_
    refine Ev_ireturn (pc := 162) d_MO_emergency_162 rfl rfl ?_
    simp only [f_MO_emergency_11_155, if_neg q13] at k
    exact k
def f_MO_emergency_11_131 (h : ev_H) (x1 : Int32) (x2 : Int32) (x3 : Int32) : Int32 × ev_H := f_MO_emergency_11_155 h x1 x2 x3
theorem c_MO_emergency_11_131 {E : ev_E} {P : Option ev_V ⊕ Nat → ev_H → Prop} {h : ev_H} {x1 : Int32} {x2 : Int32} {x3 : Int32} (hR : rfs h) (n1 : ¬ x2 < 0) (n2 : x2.toNatClampNeg < 48) (n3 : (gI h 0 6 2).toNatClampNeg ≤ 48) (n4 : (gI h 0 6 2) = nI (gI h 0 6 2).toNatClampNeg) (n5 : ¬ x1 < 0) (n6 : x1.toNatClampNeg < 10) (k : P (.inl (some (vI (f_MO_emergency_11_131 h x1 x2 x3).1))) (f_MO_emergency_11_131 h x1 x2 x3).2) : Ev E M_MO_emergency 131 [(0, vR 0 6), (1, vI x1), (2, vI x2), (3, vI x3), (4, vI 1), (5, vI (m_MO_emergency_11_42 h x1 x2 x3)), (6, vI (m_MO_emergency_11_92 h x1 x2 x3))] [vI (m_MO_emergency_11_131 h x1 x2 x3), vI (m_MO_emergency_11_121 x1 x2 x3), vI 0, vR 0 6] h P := by
  refine Ev_iload (pc := 131) d_MO_emergency_131 rfl ?_
  refine Ev_if_eq (tgt := 154) (pc := 133) d_MO_emergency_133 rfl (fun q10 => ?_) (fun q10 => ?_)
  · refine Ev_iconst (v := 0) (pc := 154) d_MO_emergency_154 (by decide) ?_
    rw [f_MO_emergency_11_131] at k
    have j := c_MO_emergency_11_155 (E := E) (P := P) (h := h) (x1 := x1) (x2 := x2) (x3 := x3) hR n1 n2 n3 n4 k
    rw [m_MO_emergency_11_155, if_pos q10] at j
    exact j
  · refine Ev_iload (pc := 136) d_MO_emergency_136 rfl ?_
    refine Ev_if_eq (tgt := 150) (pc := 138) d_MO_emergency_138 rfl (fun q14 => ?_) (fun q14 => ?_)
    · refine Ev_iconst (v := 1) (pc := 150) d_MO_emergency_150 (by decide) ?_
      refine Ev_goto (tgt := 155) (pc := 151) d_MO_emergency_151 rfl ?_
      rw [f_MO_emergency_11_131] at k
      have j := c_MO_emergency_11_155 (E := E) (P := P) (h := h) (x1 := x1) (x2 := x2) (x3 := x3) hR n1 n2 n3 n4 k
      rw [m_MO_emergency_11_155, if_neg q10, if_pos q14] at j
      exact j
    · refine Ev_aload_n (pc := 141) d_MO_emergency_141 rfl ?_
      refine Ev_iload_n (pc := 142) d_MO_emergency_142 rfl ?_
      refine Ev_iload_n (pc := 143) d_MO_emergency_143 rfl ?_
      refine Ev_callV (M' := M_MO_reasonFor) (as := [vI x1, vI x2]) (st := [vI (m_MO_emergency_11_131 h x1 x2 x3), vI (m_MO_emergency_11_121 x1 x2 x3), vI 0, vR 0 6]) (a := 0) (i := 6) (pc := 144) d_MO_emergency_144 rfl rfl rfl rfl rfl rfl rfl v_MO_reasonFor lk_MO_127 rfl rfl (c_MO_reasonFor hR n1 n2 n5 n6 ?_)
      refine Ev_if_eq (tgt := 154) (pc := 147) d_MO_emergency_147 rfl (fun q15 => ?_) (fun q15 => ?_)
      · refine Ev_iconst (v := 0) (pc := 154) d_MO_emergency_154 (by decide) ?_
        rw [f_MO_emergency_11_131] at k
        have j := c_MO_emergency_11_155 (E := E) (P := P) (h := h) (x1 := x1) (x2 := x2) (x3 := x3) hR n1 n2 n3 n4 k
        rw [m_MO_emergency_11_155, if_neg q10, if_neg q14, if_pos q15] at j
        exact j
      · refine Ev_iconst (v := 1) (pc := 150) d_MO_emergency_150 (by decide) ?_
        refine Ev_goto (tgt := 155) (pc := 151) d_MO_emergency_151 rfl ?_
        rw [f_MO_emergency_11_131] at k
        have j := c_MO_emergency_11_155 (E := E) (P := P) (h := h) (x1 := x1) (x2 := x2) (x3 := x3) hR n1 n2 n3 n4 k
        rw [m_MO_emergency_11_155, if_neg q10, if_neg q14, if_neg q15] at j
        exact j
def f_MO_emergency_11_121 (h : ev_H) (x1 : Int32) (x2 : Int32) (x3 : Int32) : Int32 × ev_H := f_MO_emergency_11_131 h x1 x2 x3
theorem c_MO_emergency_11_121 {E : ev_E} {P : Option ev_V ⊕ Nat → ev_H → Prop} {h : ev_H} {x1 : Int32} {x2 : Int32} {x3 : Int32} (hR : rfs h) (n1 : ¬ x2 < 0) (n2 : x2.toNatClampNeg < 48) (n3 : (gI h 0 6 2).toNatClampNeg ≤ 48) (n4 : (gI h 0 6 2) = nI (gI h 0 6 2).toNatClampNeg) (n5 : ¬ x1 < 0) (n6 : x1.toNatClampNeg < 10) (k : P (.inl (some (vI (f_MO_emergency_11_121 h x1 x2 x3).1))) (f_MO_emergency_11_121 h x1 x2 x3).2) : Ev E M_MO_emergency 121 [(0, vR 0 6), (1, vI x1), (2, vI x2), (3, vI x3), (4, vI 1), (5, vI (m_MO_emergency_11_42 h x1 x2 x3)), (6, vI (m_MO_emergency_11_92 h x1 x2 x3))] [vI (m_MO_emergency_11_121 x1 x2 x3), vI 0, vR 0 6] h P := by
  refine Ev_iload (pc := 121) d_MO_emergency_121 rfl ?_
  refine Ev_if_ne (tgt := 130) (pc := 123) d_MO_emergency_123 rfl (fun q9 => ?_) (fun q9 => ?_)
  · refine Ev_iconst (v := 0) (pc := 130) d_MO_emergency_130 (by decide) ?_
    rw [f_MO_emergency_11_121] at k
    have j := c_MO_emergency_11_131 (E := E) (P := P) (h := h) (x1 := x1) (x2 := x2) (x3 := x3) hR n1 n2 n3 n4 n5 n6 k
    rw [m_MO_emergency_11_131, if_neg q9] at j
    exact j
  · refine Ev_iconst (v := 1) (pc := 126) d_MO_emergency_126 (by decide) ?_
    refine Ev_goto (tgt := 131) (pc := 127) d_MO_emergency_127 rfl ?_
    rw [f_MO_emergency_11_121] at k
    have j := c_MO_emergency_11_131 (E := E) (P := P) (h := h) (x1 := x1) (x2 := x2) (x3 := x3) hR n1 n2 n3 n4 n5 n6 k
    rw [m_MO_emergency_11_131, if_pos q9] at j
    exact j
def f_MO_emergency_11_92 (h : ev_H) (x1 : Int32) (x2 : Int32) (x3 : Int32) : Int32 × ev_H := f_MO_emergency_11_121 h x1 x2 x3
theorem c_MO_emergency_11_92 {E : ev_E} {P : Option ev_V ⊕ Nat → ev_H → Prop} {h : ev_H} {x1 : Int32} {x2 : Int32} {x3 : Int32} (hR : rfs h) (n1 : ¬ x2 < 0) (n2 : x2.toNatClampNeg < 48) (n3 : (gI h 0 6 2).toNatClampNeg ≤ 48) (n4 : (gI h 0 6 2) = nI (gI h 0 6 2).toNatClampNeg) (n5 : ¬ x1 < 0) (n6 : x1.toNatClampNeg < 10) (k : P (.inl (some (vI (f_MO_emergency_11_92 h x1 x2 x3).1))) (f_MO_emergency_11_92 h x1 x2 x3).2) : Ev E M_MO_emergency 92 [(0, vR 0 6), (1, vI x1), (2, vI x2), (3, vI x3), (4, vI 1), (5, vI (m_MO_emergency_11_42 h x1 x2 x3))] [vI (m_MO_emergency_11_92 h x1 x2 x3)] h P := by
  refine Ev_istore (pc := 92) d_MO_emergency_92 rfl ?_
  refine Ev_aload_n (pc := 94) d_MO_emergency_94 rfl ?_
  refine Ev_iload (pc := 95) d_MO_emergency_95 rfl ?_
  refine Ev_if_ne (tgt := 104) (pc := 97) d_MO_emergency_97 rfl (fun _ => ?_) (fun q => absurd q (by decide))
  refine Ev_iconst (v := 0) (pc := 104) d_MO_emergency_104 (by decide) ?_
  refine Ev_iload_n (pc := 105) d_MO_emergency_105 rfl ?_
  refine Ev_iconst (v := 1) (pc := 106) d_MO_emergency_106 (by decide) ?_
  refine Ev_sipush (v := 999) (pc := 107) d_MO_emergency_107 (by decide) ?_
  refine Ev_callS (M' := M_MO_in) (as := [vI x3, vI 1, vI 999]) (st := [vI 0, vR 0 6]) (pc := 110) d_MO_emergency_110 rfl rfl rfl s_MO_in lk_MO_77 rfl rfl (c_MO_in  ?_)
  refine Ev_if_ne (tgt := 120) (pc := 113) d_MO_emergency_113 rfl (fun q8 => ?_) (fun q8 => ?_)
  · refine Ev_iconst (v := 0) (pc := 120) d_MO_emergency_120 (by decide) ?_
    rw [f_MO_emergency_11_92] at k
    have j := c_MO_emergency_11_121 (E := E) (P := P) (h := h) (x1 := x1) (x2 := x2) (x3 := x3) hR n1 n2 n3 n4 n5 n6 k
    rw [m_MO_emergency_11_121, if_neg q8] at j
    exact j
  · refine Ev_iconst (v := 1) (pc := 116) d_MO_emergency_116 (by decide) ?_
    refine Ev_goto (tgt := 121) (pc := 117) d_MO_emergency_117 rfl ?_
    rw [f_MO_emergency_11_92] at k
    have j := c_MO_emergency_11_121 (E := E) (P := P) (h := h) (x1 := x1) (x2 := x2) (x3 := x3) hR n1 n2 n3 n4 n5 n6 k
    rw [m_MO_emergency_11_121, if_pos q8] at j
    exact j
def f_MO_emergency_11_42 (h : ev_H) (x1 : Int32) (x2 : Int32) (x3 : Int32) : Int32 × ev_H := f_MO_emergency_11_92 h x1 x2 x3
theorem c_MO_emergency_11_42 {E : ev_E} {P : Option ev_V ⊕ Nat → ev_H → Prop} {h : ev_H} {x1 : Int32} {x2 : Int32} {x3 : Int32} (hR : rfs h) (n1 : ¬ x2 < 0) (n2 : x2.toNatClampNeg < 48) (n3 : (gI h 0 6 2).toNatClampNeg ≤ 48) (n4 : (gI h 0 6 2) = nI (gI h 0 6 2).toNatClampNeg) (n5 : ¬ x1 < 0) (n6 : x1.toNatClampNeg < 10) (k : P (.inl (some (vI (f_MO_emergency_11_42 h x1 x2 x3).1))) (f_MO_emergency_11_42 h x1 x2 x3).2) : Ev E M_MO_emergency 42 [(0, vR 0 6), (1, vI x1), (2, vI x2), (3, vI x3), (4, vI 1)] [vI (m_MO_emergency_11_42 h x1 x2 x3)] h P := by
  refine Ev_istore (pc := 42) d_MO_emergency_42 rfl ?_
  refine Ev_iload (pc := 44) d_MO_emergency_44 rfl ?_
  refine Ev_if_eq (tgt := 91) (pc := 46) d_MO_emergency_46 rfl (fun q => absurd q (by decide)) (fun _ => ?_)
  refine Ev_aload_n (pc := 49) d_MO_emergency_49 rfl ?_
  refine Ev_getR (pc := 50) d_MO_emergency_50 rfl rfl rfl fl_MO_7 (rf_MO_3 hR) ?_
  refine Ev_iload_n (pc := 53) d_MO_emergency_53 rfl ?_
  refine Ev_iald (pc := 54) d_MO_emergency_54 rfl rfl n1 n2 ?_
  refine Ev_if_ne (tgt := 67) (pc := 55) d_MO_emergency_55 rfl (fun q2 => ?_) (fun q2 => ?_)
  · refine Ev_aload_n (pc := 67) d_MO_emergency_67 rfl ?_
    refine Ev_getR (pc := 68) d_MO_emergency_68 rfl rfl rfl fl_MO_7 (rf_MO_3 hR) ?_
    refine Ev_iload_n (pc := 71) d_MO_emergency_71 rfl ?_
    refine Ev_iald (pc := 72) d_MO_emergency_72 rfl rfl n1 n2 ?_
    refine Ev_iconst (v := 1) (pc := 73) d_MO_emergency_73 (by decide) ?_
    refine Ev_icmp_ne (tgt := 91) (pc := 74) d_MO_emergency_74 rfl (fun q16 => ?_) (fun q16 => ?_)
    · refine Ev_iconst (v := 0) (pc := 91) d_MO_emergency_91 (by decide) ?_
      rw [f_MO_emergency_11_42] at k
      have j := c_MO_emergency_11_92 (E := E) (P := P) (h := h) (x1 := x1) (x2 := x2) (x3 := x3) hR n1 n2 n3 n4 n5 n6 k
      rw [m_MO_emergency_11_92, if_neg q2, if_neg q16] at j
      exact j
    · refine Ev_aload_n (pc := 77) d_MO_emergency_77 rfl ?_
      refine Ev_getR (pc := 78) d_MO_emergency_78 rfl rfl rfl fl_MO_13 (rf_MO_4 hR) ?_
      refine Ev_iload_n (pc := 81) d_MO_emergency_81 rfl ?_
      refine Ev_iald (pc := 82) d_MO_emergency_82 rfl rfl n1 n2 ?_
      refine Ev_iconst (v := 3) (pc := 83) d_MO_emergency_83 (by decide) ?_
      refine Ev_icmp_ne (tgt := 91) (pc := 84) d_MO_emergency_84 rfl (fun q17 => ?_) (fun q17 => ?_)
      · refine Ev_iconst (v := 0) (pc := 91) d_MO_emergency_91 (by decide) ?_
        rw [f_MO_emergency_11_42] at k
        have j := c_MO_emergency_11_92 (E := E) (P := P) (h := h) (x1 := x1) (x2 := x2) (x3 := x3) hR n1 n2 n3 n4 n5 n6 k
        rw [m_MO_emergency_11_92, if_neg q2, if_pos q16, if_neg q17] at j
        exact j
      · refine Ev_iconst (v := 1) (pc := 87) d_MO_emergency_87 (by decide) ?_
        refine Ev_goto (tgt := 92) (pc := 88) d_MO_emergency_88 rfl ?_
        rw [f_MO_emergency_11_42] at k
        have j := c_MO_emergency_11_92 (E := E) (P := P) (h := h) (x1 := x1) (x2 := x2) (x3 := x3) hR n1 n2 n3 n4 n5 n6 k
        rw [m_MO_emergency_11_92, if_neg q2, if_pos q16, if_pos q17] at j
        exact j
  · refine Ev_aload_n (pc := 58) d_MO_emergency_58 rfl ?_
    refine Ev_getR (pc := 59) d_MO_emergency_59 rfl rfl rfl fl_MO_13 (rf_MO_4 hR) ?_
    refine Ev_iload_n (pc := 62) d_MO_emergency_62 rfl ?_
    refine Ev_iald (pc := 63) d_MO_emergency_63 rfl rfl n1 n2 ?_
    refine Ev_if_eq (tgt := 87) (pc := 64) d_MO_emergency_64 rfl (fun q18 => ?_) (fun q18 => ?_)
    · refine Ev_iconst (v := 1) (pc := 87) d_MO_emergency_87 (by decide) ?_
      refine Ev_goto (tgt := 92) (pc := 88) d_MO_emergency_88 rfl ?_
      rw [f_MO_emergency_11_42] at k
      have j := c_MO_emergency_11_92 (E := E) (P := P) (h := h) (x1 := x1) (x2 := x2) (x3 := x3) hR n1 n2 n3 n4 n5 n6 k
      rw [m_MO_emergency_11_92, if_pos q2, if_pos q18] at j
      exact j
    · refine Ev_aload_n (pc := 67) d_MO_emergency_67 rfl ?_
      refine Ev_getR (pc := 68) d_MO_emergency_68 rfl rfl rfl fl_MO_7 (rf_MO_3 hR) ?_
      refine Ev_iload_n (pc := 71) d_MO_emergency_71 rfl ?_
      refine Ev_iald (pc := 72) d_MO_emergency_72 rfl rfl n1 n2 ?_
      refine Ev_iconst (v := 1) (pc := 73) d_MO_emergency_73 (by decide) ?_
      refine Ev_icmp_ne (tgt := 91) (pc := 74) d_MO_emergency_74 rfl (fun q19 => ?_) (fun q19 => ?_)
      · refine Ev_iconst (v := 0) (pc := 91) d_MO_emergency_91 (by decide) ?_
        rw [f_MO_emergency_11_42] at k
        have j := c_MO_emergency_11_92 (E := E) (P := P) (h := h) (x1 := x1) (x2 := x2) (x3 := x3) hR n1 n2 n3 n4 n5 n6 k
        rw [m_MO_emergency_11_92, if_pos q2, if_neg q18, if_neg q19] at j
        exact j
      · refine Ev_aload_n (pc := 77) d_MO_emergency_77 rfl ?_
        refine Ev_getR (pc := 78) d_MO_emergency_78 rfl rfl rfl fl_MO_13 (rf_MO_4 hR) ?_
        refine Ev_iload_n (pc := 81) d_MO_emergency_81 rfl ?_
        refine Ev_iald (pc := 82) d_MO_emergency_82 rfl rfl n1 n2 ?_
        refine Ev_iconst (v := 3) (pc := 83) d_MO_emergency_83 (by decide) ?_
        refine Ev_icmp_ne (tgt := 91) (pc := 84) d_MO_emergency_84 rfl (fun q20 => ?_) (fun q20 => ?_)
        · refine Ev_iconst (v := 0) (pc := 91) d_MO_emergency_91 (by decide) ?_
          rw [f_MO_emergency_11_42] at k
          have j := c_MO_emergency_11_92 (E := E) (P := P) (h := h) (x1 := x1) (x2 := x2) (x3 := x3) hR n1 n2 n3 n4 n5 n6 k
          rw [m_MO_emergency_11_92, if_pos q2, if_neg q18, if_pos q19, if_neg q20] at j
          exact j
        · refine Ev_iconst (v := 1) (pc := 87) d_MO_emergency_87 (by decide) ?_
          refine Ev_goto (tgt := 92) (pc := 88) d_MO_emergency_88 rfl ?_
          rw [f_MO_emergency_11_42] at k
          have j := c_MO_emergency_11_92 (E := E) (P := P) (h := h) (x1 := x1) (x2 := x2) (x3 := x3) hR n1 n2 n3 n4 n5 n6 k
          rw [m_MO_emergency_11_92, if_pos q2, if_neg q18, if_pos q19, if_pos q20] at j
          exact j
def f_MO_emergency_11 (h : ev_H) (x1 : Int32) (x2 : Int32) (x3 : Int32) : Int32 × ev_H := f_MO_emergency_11_42 h x1 x2 x3
theorem c_MO_emergency_11 {E : ev_E} {P : Option ev_V ⊕ Nat → ev_H → Prop} {h : ev_H} {x1 : Int32} {x2 : Int32} {x3 : Int32} (v0 : f_MO_isPatient h x1 = 1) (v1 : f_MO_isUnit h x2 = 1) (hR : rfs h) (n3 : ¬ x2 < 0) (n4 : x2.toNatClampNeg < 48) (n5 : ¬ x1 < 0) (n6 : x1.toNatClampNeg < 10) (n7 : (gI h 0 6 2).toNatClampNeg ≤ 48) (n8 : (gI h 0 6 2) = nI (gI h 0 6 2).toNatClampNeg) (k : P (.inl (some (vI (f_MO_emergency_11 h x1 x2 x3).1))) (f_MO_emergency_11 h x1 x2 x3).2) : Ev E M_MO_emergency 0 [(0, vR 0 6), (1, vI x1), (2, vI x2), (3, vI x3)] [] h P := by
  refine Ev_aload_n (pc := 0) d_MO_emergency_0 rfl ?_
  refine Ev_iload_n (pc := 1) d_MO_emergency_1 rfl ?_
  refine Ev_callV (M' := M_MO_isPatient) (as := [vI x1]) (st := []) (a := 0) (i := 6) (pc := 2) d_MO_emergency_2 rfl rfl rfl rfl rfl rfl rfl v_MO_isPatient lk_MO_121 rfl rfl (c_MO_isPatientV (v := 1) v0 ?_)
  refine Ev_if_eq (tgt := 20) (pc := 5) d_MO_emergency_5 rfl (fun q => absurd q (by decide)) (fun _ => ?_)
  refine Ev_aload_n (pc := 8) d_MO_emergency_8 rfl ?_
  refine Ev_iload_n (pc := 9) d_MO_emergency_9 rfl ?_
  refine Ev_callV (M' := M_MO_isUnit) (as := [vI x2]) (st := []) (a := 0) (i := 6) (pc := 10) d_MO_emergency_10 rfl rfl rfl rfl rfl rfl rfl v_MO_isUnit lk_MO_111 rfl rfl (c_MO_isUnitV (v := 1) v1 ?_)
  refine Ev_if_eq (tgt := 20) (pc := 13) d_MO_emergency_13 rfl (fun q => absurd q (by decide)) (fun _ => ?_)
  refine Ev_iconst (v := 1) (pc := 16) d_MO_emergency_16 (by decide) ?_
  refine Ev_goto (tgt := 21) (pc := 17) d_MO_emergency_17 rfl ?_
  refine Ev_istore (pc := 21) d_MO_emergency_21 rfl ?_
  refine Ev_iload (pc := 23) d_MO_emergency_23 rfl ?_
  refine Ev_if_eq (tgt := 41) (pc := 25) d_MO_emergency_25 rfl (fun q => absurd q (by decide)) (fun _ => ?_)
  refine Ev_aload_n (pc := 28) d_MO_emergency_28 rfl ?_
  refine Ev_iload_n (pc := 29) d_MO_emergency_29 rfl ?_
  refine Ev_iload_n (pc := 30) d_MO_emergency_30 rfl ?_
  refine Ev_callV (M' := M_MO_mayGo) (as := [vI x1, vI x2]) (st := []) (a := 0) (i := 6) (pc := 31) d_MO_emergency_31 rfl rfl rfl rfl rfl rfl rfl v_MO_mayGo lk_MO_137 rfl rfl (c_MO_mayGo hR n3 n4 n5 n6 ?_)
  refine Ev_if_eq (tgt := 41) (pc := 34) d_MO_emergency_34 rfl (fun q1 => ?_) (fun q1 => ?_)
  · refine Ev_iconst (v := 0) (pc := 41) d_MO_emergency_41 (by decide) ?_
    rw [f_MO_emergency_11] at k
    have j := c_MO_emergency_11_42 (E := E) (P := P) (h := h) (x1 := x1) (x2 := x2) (x3 := x3) hR n3 n4 n7 n8 n5 n6 k
    rw [m_MO_emergency_11_42, if_pos q1] at j
    exact j
  · refine Ev_iconst (v := 1) (pc := 37) d_MO_emergency_37 (by decide) ?_
    refine Ev_goto (tgt := 42) (pc := 38) d_MO_emergency_38 rfl ?_
    rw [f_MO_emergency_11] at k
    have j := c_MO_emergency_11_42 (E := E) (P := P) (h := h) (x1 := x1) (x2 := x2) (x3 := x3) hR n3 n4 n7 n8 n5 n6 k
    rw [m_MO_emergency_11_42, if_neg q1] at j
    exact j
def f_MO_issue_10 (h : ev_H) (x1 : Int32) (x2 : Int32) : Int32 × ev_H := (0, (sI h 0 6 0 1))
theorem c_MO_issue_10 {E : ev_E} {P : Option ev_V ⊕ Nat → ev_H → Prop} {h : ev_H} {x1 : Int32} {x2 : Int32} (v0 : f_MO_isPatient h x1 = 1) (v1 : f_MO_isUnit h x2 = 0) (k : P (.inl (some (vI (f_MO_issue_10 h x1 x2).1))) (f_MO_issue_10 h x1 x2).2) : Ev E M_MO_issue 0 [(0, vR 0 6), (1, vI x1), (2, vI x2)] [] h P := by
  refine Ev_aload_n (pc := 0) d_MO_issue_0 rfl ?_
  refine Ev_iload_n (pc := 1) d_MO_issue_1 rfl ?_
  refine Ev_callV (M' := M_MO_isPatient) (as := [vI x1]) (st := []) (a := 0) (i := 6) (pc := 2) d_MO_issue_2 rfl rfl rfl rfl rfl rfl rfl v_MO_isPatient lk_MO_121 rfl rfl (c_MO_isPatientV (v := 1) v0 ?_)
  refine Ev_if_eq (tgt := 20) (pc := 5) d_MO_issue_5 rfl (fun q => absurd q (by decide)) (fun _ => ?_)
  refine Ev_aload_n (pc := 8) d_MO_issue_8 rfl ?_
  refine Ev_iload_n (pc := 9) d_MO_issue_9 rfl ?_
  refine Ev_callV (M' := M_MO_isUnit) (as := [vI x2]) (st := []) (a := 0) (i := 6) (pc := 10) d_MO_issue_10 rfl rfl rfl rfl rfl rfl rfl v_MO_isUnit lk_MO_111 rfl rfl (c_MO_isUnitV (v := 0) v1 ?_)
  refine Ev_if_eq (tgt := 20) (pc := 13) d_MO_issue_13 rfl (fun _ => ?_) (fun q => absurd q (by decide))
  refine Ev_iconst (v := 0) (pc := 20) d_MO_issue_20 (by decide) ?_
  refine Ev_istore_n (pc := 21) d_MO_issue_21 rfl ?_
  refine Ev_iload_n (pc := 22) d_MO_issue_22 rfl ?_
  refine Ev_if_eq (tgt := 65) (pc := 23) d_MO_issue_23 rfl (fun _ => ?_) (fun q => absurd q (by decide))
  refine Ev_iconst (v := 0) (pc := 65) d_MO_issue_65 (by decide) ?_
  refine Ev_istore (pc := 66) d_MO_issue_66 rfl ?_
  refine Ev_aload_n (pc := 68) d_MO_issue_68 rfl ?_
  refine Ev_iload_n (pc := 69) d_MO_issue_69 rfl ?_
  refine Ev_if_ne (tgt := 77) (pc := 70) d_MO_issue_70 rfl (fun q => absurd q (by decide)) (fun _ => ?_)
  refine Ev_iconst (v := 1) (pc := 73) d_MO_issue_73 (by decide) ?_
  refine Ev_goto (tgt := 78) (pc := 74) d_MO_issue_74 rfl ?_
  refine Ev_iload (pc := 78) d_MO_issue_78 rfl ?_
  refine Ev_if_ne (tgt := 87) (pc := 80) d_MO_issue_80 rfl (fun q => absurd q (by decide)) (fun _ => ?_)
  refine Ev_iconst (v := 1) (pc := 83) d_MO_issue_83 (by decide) ?_
  refine Ev_goto (tgt := 88) (pc := 84) d_MO_issue_84 rfl ?_
  refine Ev_iload (pc := 88) d_MO_issue_88 rfl ?_
  refine Ev_if_eq (tgt := 115) (pc := 90) d_MO_issue_90 rfl (fun _ => ?_) (fun q => absurd q (by decide))
  refine Ev_iconst (v := 0) (pc := 115) d_MO_issue_115 (by decide) ?_
  refine Ev_iconst (v := 0) (pc := 116) d_MO_issue_116 (by decide) ?_
  refine Ev_callV (M' := M_MO_refused) (as := [vI 1, vI 1, vI 0, vI 0]) (st := []) (a := 0) (i := 6) (pc := 117) d_MO_issue_117 rfl rfl rfl rfl rfl rfl rfl v_MO_refused lk_MO_85 rfl rfl (c_MO_refused1  ?_)
  refine Ev_if_eq (tgt := 125) (pc := 120) d_MO_issue_120 rfl (fun q => absurd q (by decide)) (fun _ => ?_)
  refine Ev_iconst (v := 0) (pc := 123) d_MO_issue_123 (by decide) ?_
  refine Ev_ireturn (pc := 124) d_MO_issue_124 rfl rfl ?_
  rw [f_MO_issue_10] at k
  exact k
def m_MO_emergency_10_121 (x1 : Int32) (x2 : Int32) (x3 : Int32) : Int32 := (if (f_MO_in x3 1 999) = 0 then 1 else 0)
def f_MO_emergency_10_121 (h : ev_H) (x1 : Int32) (x2 : Int32) (x3 : Int32) : Int32 × ev_H := (0, (sI h 0 6 0 1))
theorem c_MO_emergency_10_121 {E : ev_E} {P : Option ev_V ⊕ Nat → ev_H → Prop} {h : ev_H} {x1 : Int32} {x2 : Int32} {x3 : Int32} (k : P (.inl (some (vI (f_MO_emergency_10_121 h x1 x2 x3).1))) (f_MO_emergency_10_121 h x1 x2 x3).2) : Ev E M_MO_emergency 121 [(0, vR 0 6), (1, vI x1), (2, vI x2), (3, vI x3), (4, vI 0), (5, vI 0), (6, vI 0)] [vI (m_MO_emergency_10_121 x1 x2 x3), vI 1, vR 0 6] h P := by
  refine Ev_iload (pc := 121) d_MO_emergency_121 rfl ?_
  refine Ev_if_ne (tgt := 130) (pc := 123) d_MO_emergency_123 rfl (fun q => absurd q (by decide)) (fun _ => ?_)
  refine Ev_iconst (v := 1) (pc := 126) d_MO_emergency_126 (by decide) ?_
  refine Ev_goto (tgt := 131) (pc := 127) d_MO_emergency_127 rfl ?_
  refine Ev_iload (pc := 131) d_MO_emergency_131 rfl ?_
  refine Ev_if_eq (tgt := 154) (pc := 133) d_MO_emergency_133 rfl (fun _ => ?_) (fun q => absurd q (by decide))
  refine Ev_iconst (v := 0) (pc := 154) d_MO_emergency_154 (by decide) ?_
  refine Ev_callV (M' := M_MO_refused) (as := [vI 1, vI (m_MO_emergency_10_121 x1 x2 x3), vI 1, vI 0]) (st := []) (a := 0) (i := 6) (pc := 155) d_MO_emergency_155 rfl rfl rfl rfl rfl rfl rfl v_MO_refused lk_MO_85 rfl rfl (c_MO_refused1  ?_)
  refine Ev_if_eq (tgt := 163) (pc := 158) d_MO_emergency_158 rfl (fun q => absurd q (by decide)) (fun _ => ?_)
  refine Ev_iconst (v := 0) (pc := 161) d_MO_emergency_161 (by decide) ?_
  refine Ev_ireturn (pc := 162) d_MO_emergency_162 rfl rfl ?_
  rw [f_MO_emergency_10_121] at k
  exact k
def f_MO_emergency_10 (h : ev_H) (x1 : Int32) (x2 : Int32) (x3 : Int32) : Int32 × ev_H := f_MO_emergency_10_121 h x1 x2 x3
theorem c_MO_emergency_10 {E : ev_E} {P : Option ev_V ⊕ Nat → ev_H → Prop} {h : ev_H} {x1 : Int32} {x2 : Int32} {x3 : Int32} (v0 : f_MO_isPatient h x1 = 1) (v1 : f_MO_isUnit h x2 = 0) (k : P (.inl (some (vI (f_MO_emergency_10 h x1 x2 x3).1))) (f_MO_emergency_10 h x1 x2 x3).2) : Ev E M_MO_emergency 0 [(0, vR 0 6), (1, vI x1), (2, vI x2), (3, vI x3)] [] h P := by
  refine Ev_aload_n (pc := 0) d_MO_emergency_0 rfl ?_
  refine Ev_iload_n (pc := 1) d_MO_emergency_1 rfl ?_
  refine Ev_callV (M' := M_MO_isPatient) (as := [vI x1]) (st := []) (a := 0) (i := 6) (pc := 2) d_MO_emergency_2 rfl rfl rfl rfl rfl rfl rfl v_MO_isPatient lk_MO_121 rfl rfl (c_MO_isPatientV (v := 1) v0 ?_)
  refine Ev_if_eq (tgt := 20) (pc := 5) d_MO_emergency_5 rfl (fun q => absurd q (by decide)) (fun _ => ?_)
  refine Ev_aload_n (pc := 8) d_MO_emergency_8 rfl ?_
  refine Ev_iload_n (pc := 9) d_MO_emergency_9 rfl ?_
  refine Ev_callV (M' := M_MO_isUnit) (as := [vI x2]) (st := []) (a := 0) (i := 6) (pc := 10) d_MO_emergency_10 rfl rfl rfl rfl rfl rfl rfl v_MO_isUnit lk_MO_111 rfl rfl (c_MO_isUnitV (v := 0) v1 ?_)
  refine Ev_if_eq (tgt := 20) (pc := 13) d_MO_emergency_13 rfl (fun _ => ?_) (fun q => absurd q (by decide))
  refine Ev_iconst (v := 0) (pc := 20) d_MO_emergency_20 (by decide) ?_
  refine Ev_istore (pc := 21) d_MO_emergency_21 rfl ?_
  refine Ev_iload (pc := 23) d_MO_emergency_23 rfl ?_
  refine Ev_if_eq (tgt := 41) (pc := 25) d_MO_emergency_25 rfl (fun _ => ?_) (fun q => absurd q (by decide))
  refine Ev_iconst (v := 0) (pc := 41) d_MO_emergency_41 (by decide) ?_
  refine Ev_istore (pc := 42) d_MO_emergency_42 rfl ?_
  refine Ev_iload (pc := 44) d_MO_emergency_44 rfl ?_
  refine Ev_if_eq (tgt := 91) (pc := 46) d_MO_emergency_46 rfl (fun _ => ?_) (fun q => absurd q (by decide))
  refine Ev_iconst (v := 0) (pc := 91) d_MO_emergency_91 (by decide) ?_
  refine Ev_istore (pc := 92) d_MO_emergency_92 rfl ?_
  refine Ev_aload_n (pc := 94) d_MO_emergency_94 rfl ?_
  refine Ev_iload (pc := 95) d_MO_emergency_95 rfl ?_
  refine Ev_if_ne (tgt := 104) (pc := 97) d_MO_emergency_97 rfl (fun q => absurd q (by decide)) (fun _ => ?_)
  refine Ev_iconst (v := 1) (pc := 100) d_MO_emergency_100 (by decide) ?_
  refine Ev_goto (tgt := 105) (pc := 101) d_MO_emergency_101 rfl ?_
  refine Ev_iload_n (pc := 105) d_MO_emergency_105 rfl ?_
  refine Ev_iconst (v := 1) (pc := 106) d_MO_emergency_106 (by decide) ?_
  refine Ev_sipush (v := 999) (pc := 107) d_MO_emergency_107 (by decide) ?_
  refine Ev_callS (M' := M_MO_in) (as := [vI x3, vI 1, vI 999]) (st := [vI 1, vR 0 6]) (pc := 110) d_MO_emergency_110 rfl rfl rfl s_MO_in lk_MO_77 rfl rfl (c_MO_in  ?_)
  refine Ev_if_ne (tgt := 120) (pc := 113) d_MO_emergency_113 rfl (fun q1 => ?_) (fun q1 => ?_)
  · refine Ev_iconst (v := 0) (pc := 120) d_MO_emergency_120 (by decide) ?_
    rw [f_MO_emergency_10] at k
    have j := c_MO_emergency_10_121 (E := E) (P := P) (h := h) (x1 := x1) (x2 := x2) (x3 := x3)  k
    rw [m_MO_emergency_10_121, if_neg q1] at j
    exact j
  · refine Ev_iconst (v := 1) (pc := 116) d_MO_emergency_116 (by decide) ?_
    refine Ev_goto (tgt := 121) (pc := 117) d_MO_emergency_117 rfl ?_
    rw [f_MO_emergency_10] at k
    have j := c_MO_emergency_10_121 (E := E) (P := P) (h := h) (x1 := x1) (x2 := x2) (x3 := x3)  k
    rw [m_MO_emergency_10_121, if_pos q1] at j
    exact j
def f_MO_issue_0 (h : ev_H) (x1 : Int32) (x2 : Int32) : Int32 × ev_H := (0, (sI h 0 6 0 1))
theorem c_MO_issue_0 {E : ev_E} {P : Option ev_V ⊕ Nat → ev_H → Prop} {h : ev_H} {x1 : Int32} {x2 : Int32} (v0 : f_MO_isPatient h x1 = 0) (k : P (.inl (some (vI (f_MO_issue_0 h x1 x2).1))) (f_MO_issue_0 h x1 x2).2) : Ev E M_MO_issue 0 [(0, vR 0 6), (1, vI x1), (2, vI x2)] [] h P := by
  refine Ev_aload_n (pc := 0) d_MO_issue_0 rfl ?_
  refine Ev_iload_n (pc := 1) d_MO_issue_1 rfl ?_
  refine Ev_callV (M' := M_MO_isPatient) (as := [vI x1]) (st := []) (a := 0) (i := 6) (pc := 2) d_MO_issue_2 rfl rfl rfl rfl rfl rfl rfl v_MO_isPatient lk_MO_121 rfl rfl (c_MO_isPatientV (v := 0) v0 ?_)
  refine Ev_if_eq (tgt := 20) (pc := 5) d_MO_issue_5 rfl (fun _ => ?_) (fun q => absurd q (by decide))
  refine Ev_iconst (v := 0) (pc := 20) d_MO_issue_20 (by decide) ?_
  refine Ev_istore_n (pc := 21) d_MO_issue_21 rfl ?_
  refine Ev_iload_n (pc := 22) d_MO_issue_22 rfl ?_
  refine Ev_if_eq (tgt := 65) (pc := 23) d_MO_issue_23 rfl (fun _ => ?_) (fun q => absurd q (by decide))
  refine Ev_iconst (v := 0) (pc := 65) d_MO_issue_65 (by decide) ?_
  refine Ev_istore (pc := 66) d_MO_issue_66 rfl ?_
  refine Ev_aload_n (pc := 68) d_MO_issue_68 rfl ?_
  refine Ev_iload_n (pc := 69) d_MO_issue_69 rfl ?_
  refine Ev_if_ne (tgt := 77) (pc := 70) d_MO_issue_70 rfl (fun q => absurd q (by decide)) (fun _ => ?_)
  refine Ev_iconst (v := 1) (pc := 73) d_MO_issue_73 (by decide) ?_
  refine Ev_goto (tgt := 78) (pc := 74) d_MO_issue_74 rfl ?_
  refine Ev_iload (pc := 78) d_MO_issue_78 rfl ?_
  refine Ev_if_ne (tgt := 87) (pc := 80) d_MO_issue_80 rfl (fun q => absurd q (by decide)) (fun _ => ?_)
  refine Ev_iconst (v := 1) (pc := 83) d_MO_issue_83 (by decide) ?_
  refine Ev_goto (tgt := 88) (pc := 84) d_MO_issue_84 rfl ?_
  refine Ev_iload (pc := 88) d_MO_issue_88 rfl ?_
  refine Ev_if_eq (tgt := 115) (pc := 90) d_MO_issue_90 rfl (fun _ => ?_) (fun q => absurd q (by decide))
  refine Ev_iconst (v := 0) (pc := 115) d_MO_issue_115 (by decide) ?_
  refine Ev_iconst (v := 0) (pc := 116) d_MO_issue_116 (by decide) ?_
  refine Ev_callV (M' := M_MO_refused) (as := [vI 1, vI 1, vI 0, vI 0]) (st := []) (a := 0) (i := 6) (pc := 117) d_MO_issue_117 rfl rfl rfl rfl rfl rfl rfl v_MO_refused lk_MO_85 rfl rfl (c_MO_refused1  ?_)
  refine Ev_if_eq (tgt := 125) (pc := 120) d_MO_issue_120 rfl (fun q => absurd q (by decide)) (fun _ => ?_)
  refine Ev_iconst (v := 0) (pc := 123) d_MO_issue_123 (by decide) ?_
  refine Ev_ireturn (pc := 124) d_MO_issue_124 rfl rfl ?_
  rw [f_MO_issue_0] at k
  exact k
def m_MO_emergency_0_121 (x1 : Int32) (x2 : Int32) (x3 : Int32) : Int32 := (if (f_MO_in x3 1 999) = 0 then 1 else 0)
def f_MO_emergency_0_121 (h : ev_H) (x1 : Int32) (x2 : Int32) (x3 : Int32) : Int32 × ev_H := (0, (sI h 0 6 0 1))
theorem c_MO_emergency_0_121 {E : ev_E} {P : Option ev_V ⊕ Nat → ev_H → Prop} {h : ev_H} {x1 : Int32} {x2 : Int32} {x3 : Int32} (k : P (.inl (some (vI (f_MO_emergency_0_121 h x1 x2 x3).1))) (f_MO_emergency_0_121 h x1 x2 x3).2) : Ev E M_MO_emergency 121 [(0, vR 0 6), (1, vI x1), (2, vI x2), (3, vI x3), (4, vI 0), (5, vI 0), (6, vI 0)] [vI (m_MO_emergency_0_121 x1 x2 x3), vI 1, vR 0 6] h P := by
  refine Ev_iload (pc := 121) d_MO_emergency_121 rfl ?_
  refine Ev_if_ne (tgt := 130) (pc := 123) d_MO_emergency_123 rfl (fun q => absurd q (by decide)) (fun _ => ?_)
  refine Ev_iconst (v := 1) (pc := 126) d_MO_emergency_126 (by decide) ?_
  refine Ev_goto (tgt := 131) (pc := 127) d_MO_emergency_127 rfl ?_
  refine Ev_iload (pc := 131) d_MO_emergency_131 rfl ?_
  refine Ev_if_eq (tgt := 154) (pc := 133) d_MO_emergency_133 rfl (fun _ => ?_) (fun q => absurd q (by decide))
  refine Ev_iconst (v := 0) (pc := 154) d_MO_emergency_154 (by decide) ?_
  refine Ev_callV (M' := M_MO_refused) (as := [vI 1, vI (m_MO_emergency_0_121 x1 x2 x3), vI 1, vI 0]) (st := []) (a := 0) (i := 6) (pc := 155) d_MO_emergency_155 rfl rfl rfl rfl rfl rfl rfl v_MO_refused lk_MO_85 rfl rfl (c_MO_refused1  ?_)
  refine Ev_if_eq (tgt := 163) (pc := 158) d_MO_emergency_158 rfl (fun q => absurd q (by decide)) (fun _ => ?_)
  refine Ev_iconst (v := 0) (pc := 161) d_MO_emergency_161 (by decide) ?_
  refine Ev_ireturn (pc := 162) d_MO_emergency_162 rfl rfl ?_
  rw [f_MO_emergency_0_121] at k
  exact k
def f_MO_emergency_0 (h : ev_H) (x1 : Int32) (x2 : Int32) (x3 : Int32) : Int32 × ev_H := f_MO_emergency_0_121 h x1 x2 x3
theorem c_MO_emergency_0 {E : ev_E} {P : Option ev_V ⊕ Nat → ev_H → Prop} {h : ev_H} {x1 : Int32} {x2 : Int32} {x3 : Int32} (v0 : f_MO_isPatient h x1 = 0) (k : P (.inl (some (vI (f_MO_emergency_0 h x1 x2 x3).1))) (f_MO_emergency_0 h x1 x2 x3).2) : Ev E M_MO_emergency 0 [(0, vR 0 6), (1, vI x1), (2, vI x2), (3, vI x3)] [] h P := by
  refine Ev_aload_n (pc := 0) d_MO_emergency_0 rfl ?_
  refine Ev_iload_n (pc := 1) d_MO_emergency_1 rfl ?_
  refine Ev_callV (M' := M_MO_isPatient) (as := [vI x1]) (st := []) (a := 0) (i := 6) (pc := 2) d_MO_emergency_2 rfl rfl rfl rfl rfl rfl rfl v_MO_isPatient lk_MO_121 rfl rfl (c_MO_isPatientV (v := 0) v0 ?_)
  refine Ev_if_eq (tgt := 20) (pc := 5) d_MO_emergency_5 rfl (fun _ => ?_) (fun q => absurd q (by decide))
  refine Ev_iconst (v := 0) (pc := 20) d_MO_emergency_20 (by decide) ?_
  refine Ev_istore (pc := 21) d_MO_emergency_21 rfl ?_
  refine Ev_iload (pc := 23) d_MO_emergency_23 rfl ?_
  refine Ev_if_eq (tgt := 41) (pc := 25) d_MO_emergency_25 rfl (fun _ => ?_) (fun q => absurd q (by decide))
  refine Ev_iconst (v := 0) (pc := 41) d_MO_emergency_41 (by decide) ?_
  refine Ev_istore (pc := 42) d_MO_emergency_42 rfl ?_
  refine Ev_iload (pc := 44) d_MO_emergency_44 rfl ?_
  refine Ev_if_eq (tgt := 91) (pc := 46) d_MO_emergency_46 rfl (fun _ => ?_) (fun q => absurd q (by decide))
  refine Ev_iconst (v := 0) (pc := 91) d_MO_emergency_91 (by decide) ?_
  refine Ev_istore (pc := 92) d_MO_emergency_92 rfl ?_
  refine Ev_aload_n (pc := 94) d_MO_emergency_94 rfl ?_
  refine Ev_iload (pc := 95) d_MO_emergency_95 rfl ?_
  refine Ev_if_ne (tgt := 104) (pc := 97) d_MO_emergency_97 rfl (fun q => absurd q (by decide)) (fun _ => ?_)
  refine Ev_iconst (v := 1) (pc := 100) d_MO_emergency_100 (by decide) ?_
  refine Ev_goto (tgt := 105) (pc := 101) d_MO_emergency_101 rfl ?_
  refine Ev_iload_n (pc := 105) d_MO_emergency_105 rfl ?_
  refine Ev_iconst (v := 1) (pc := 106) d_MO_emergency_106 (by decide) ?_
  refine Ev_sipush (v := 999) (pc := 107) d_MO_emergency_107 (by decide) ?_
  refine Ev_callS (M' := M_MO_in) (as := [vI x3, vI 1, vI 999]) (st := [vI 1, vR 0 6]) (pc := 110) d_MO_emergency_110 rfl rfl rfl s_MO_in lk_MO_77 rfl rfl (c_MO_in  ?_)
  refine Ev_if_ne (tgt := 120) (pc := 113) d_MO_emergency_113 rfl (fun q1 => ?_) (fun q1 => ?_)
  · refine Ev_iconst (v := 0) (pc := 120) d_MO_emergency_120 (by decide) ?_
    rw [f_MO_emergency_0] at k
    have j := c_MO_emergency_0_121 (E := E) (P := P) (h := h) (x1 := x1) (x2 := x2) (x3 := x3)  k
    rw [m_MO_emergency_0_121, if_neg q1] at j
    exact j
  · refine Ev_iconst (v := 1) (pc := 116) d_MO_emergency_116 (by decide) ?_
    refine Ev_goto (tgt := 121) (pc := 117) d_MO_emergency_117 rfl ?_
    rw [f_MO_emergency_0] at k
    have j := c_MO_emergency_0_121 (E := E) (P := P) (h := h) (x1 := x1) (x2 := x2) (x3 := x3)  k
    rw [m_MO_emergency_0_121, if_pos q1] at j
    exact j
theorem c_MO_bitsOf_L4s {E : ev_E} {P : Option ev_V ⊕ Nat → ev_H → Prop} {h : ev_H} {x0 : Int32} {a : Nat} {c1 : Int32} (q0 : ¬ 8 ≤ (nI a)) (k : Ev E M_MO_bitsOf 4 [(0, vI x0), (1, vI (c1 + ((x0 >>> ((nI a) &&& 31)) &&& 1))), (2, vI ((nI a) + 1))] [] h P) : Ev E M_MO_bitsOf 4 [(0, vI x0), (1, vI c1), (2, vI (nI a))] [] h P := by
  refine Ev_iload_n (pc := 4) d_MO_bitsOf_4 rfl ?_
  refine Ev_bipush (v := 8) (pc := 5) d_MO_bitsOf_5 (by decide) ?_
  refine Ev_icmp_ge (tgt := 24) (pc := 7) d_MO_bitsOf_7 rfl (fun q => absurd q q0) (fun _ => ?_)
  refine Ev_iload_n (pc := 10) d_MO_bitsOf_10 rfl ?_
  refine Ev_iload_n (pc := 11) d_MO_bitsOf_11 rfl ?_
  refine Ev_iload_n (pc := 12) d_MO_bitsOf_12 rfl ?_
  refine Ev_ishr (pc := 13) d_MO_bitsOf_13 ?_
  refine Ev_iconst (v := 1) (pc := 14) d_MO_bitsOf_14 (by decide) ?_
  refine Ev_iand (pc := 15) d_MO_bitsOf_15 ?_
  refine Ev_iadd (pc := 16) d_MO_bitsOf_16 ?_
  refine Ev_istore_n (pc := 17) d_MO_bitsOf_17 rfl ?_
  refine Ev_iinc (d := 1) (pc := 18) d_MO_bitsOf_18 rfl (by decide) rfl ?_
  refine Ev_goto (tgt := 4) (pc := 21) d_MO_bitsOf_21 rfl ?_
  exact k
def r_MO_bitsOf_L4 (h : ev_H) (x0 : Int32) : Nat → Int32
  | 0 => 0
  | a + 1 => ((r_MO_bitsOf_L4 h x0 a) + ((x0 >>> ((nI a) &&& 31)) &&& 1))
theorem lp_MO_bitsOf_L4 {E : ev_E} {P : Option ev_V ⊕ Nat → ev_H → Prop} {h : ev_H} {x0 : Int32} (n : Nat) (hn : n ≤ 48) (hb : 8 = nI n) (k : Ev E M_MO_bitsOf 4 [(0, vI x0), (1, vI (r_MO_bitsOf_L4 h x0 n)), (2, vI (nI n))] [] h P) : Ev E M_MO_bitsOf 4 [(0, vI x0), (1, vI 0), (2, vI 0)] [] h P := by
  refine Ev_for n (fun a => [(0, vI x0), (1, vI (r_MO_bitsOf_L4 h x0 a)), (2, vI (nI a))]) (fun a => h) (fun a ha k => ?_) k
  have k2 : Ev E M_MO_bitsOf 4 [(0, vI x0), (1, vI (r_MO_bitsOf_L4 h x0 (a + 1))), (2, vI (nI (a + 1)))] [] h P := k
  rw [nI_succ] at k2
  exact c_MO_bitsOf_L4s (by rw [hb]; exact nI_ge ha (Nat.lt_of_le_of_lt hn (by decide))) k2
def f_MO_bitsOf (h : ev_H) (x0 : Int32) : Int32 := (r_MO_bitsOf_L4 h x0 8)
theorem c_MO_bitsOf {E : ev_E} {P : Option ev_V ⊕ Nat → ev_H → Prop} {h : ev_H} {x0 : Int32} (k : P (.inl (some (vI (f_MO_bitsOf h x0)))) h) : Ev E M_MO_bitsOf 0 [(0, vI x0)] [] h P := by
  refine Ev_iconst (v := 0) (pc := 0) d_MO_bitsOf_0 (by decide) ?_
  refine Ev_istore_n (pc := 1) d_MO_bitsOf_1 rfl ?_
  refine Ev_iconst (v := 0) (pc := 2) d_MO_bitsOf_2 (by decide) ?_
  refine Ev_istore_n (pc := 3) d_MO_bitsOf_3 rfl ?_
  refine lp_MO_bitsOf_L4 8 (by decide) (by decide) ?_
  refine Ev_iload_n (pc := 4) d_MO_bitsOf_4 rfl ?_
  refine Ev_bipush (v := 8) (pc := 5) d_MO_bitsOf_5 (by decide) ?_
  refine Ev_icmp_ge (tgt := 24) (pc := 7) d_MO_bitsOf_7 rfl (fun _ => ?_) (fun q => absurd (lpx (by decide)) q)
  refine Ev_iload_n (pc := 24) d_MO_bitsOf_24 rfl ?_
  refine Ev_ireturn (pc := 25) d_MO_bitsOf_25 rfl rfl ?_
  rw [f_MO_bitsOf] at k
  exact k
def m_MO_antibody_1_29 (x1 : Int32) (x2 : Int32) : Int32 := (if (f_MO_in x2 0 7) = 0 then 1 else 0)
def hp_MO_antibody_1_55 (h : ev_H) (x1 : Int32) (x2 : Int32) : ev_H := sI ((f_MO_refused h 0 (m_MO_antibody_1_29 x1 x2) 0 0).2) 0 24 x1.toNatClampNeg ((gI ((f_MO_refused h 0 (m_MO_antibody_1_29 x1 x2) 0 0).2) 0 24 x1.toNatClampNeg) ||| (1 <<< (x2 &&& 31)))
def f_MO_antibody_1_29 (h : ev_H) (x1 : Int32) (x2 : Int32) : Int32 × ev_H := ((if ((f_MO_refused h 0 (m_MO_antibody_1_29 x1 x2) 0 0).1) = 0 then (f_MO_bitsOf (hp_MO_antibody_1_55 h x1 x2) (gI (hp_MO_antibody_1_55 h x1 x2) 0 24 x1.toNatClampNeg)) else 0), (if ((f_MO_refused h 0 (m_MO_antibody_1_29 x1 x2) 0 0).1) = 0 then (hp_MO_antibody_1_55 h x1 x2) else ((f_MO_refused h 0 (m_MO_antibody_1_29 x1 x2) 0 0).2)))
theorem c_MO_antibody_1_29 {E : ev_E} {P : Option ev_V ⊕ Nat → ev_H → Prop} {h : ev_H} {x1 : Int32} {x2 : Int32} (hR : rfs h) (n1 : ¬ x1 < 0) (n2 : x1.toNatClampNeg < 10) (k : P (.inl (some (vI (f_MO_antibody_1_29 h x1 x2).1))) (f_MO_antibody_1_29 h x1 x2).2) : Ev E M_MO_antibody 29 [(0, vR 0 6), (1, vI x1), (2, vI x2)] [vI (m_MO_antibody_1_29 x1 x2), vI 0, vR 0 6] h P := by
  refine Ev_iconst (v := 0) (pc := 29) d_MO_antibody_29 (by decide) ?_
  refine Ev_iconst (v := 0) (pc := 30) d_MO_antibody_30 (by decide) ?_
  refine Ev_callV (M' := M_MO_refused) (as := [vI 0, vI (m_MO_antibody_1_29 x1 x2), vI 0, vI 0]) (st := []) (a := 0) (i := 6) (pc := 31) d_MO_antibody_31 rfl rfl rfl rfl rfl rfl rfl v_MO_refused lk_MO_85 rfl rfl (c_MO_refused  ?_)
  refine Ev_if_eq (tgt := 39) (pc := 34) d_MO_antibody_34 rfl (fun q2 => ?_) (fun q2 => ?_)
  · refine Ev_aload_n (pc := 39) d_MO_antibody_39 rfl ?_
    refine Ev_getR (pc := 40) d_MO_antibody_40 rfl rfl rfl fl_MO_61 (rf_MO_23 hR) ?_
    refine Ev_iload_n (pc := 43) d_MO_antibody_43 rfl ?_
    refine Ev_aload_n (pc := 44) d_MO_antibody_44 rfl ?_
    refine Ev_getR (pc := 45) d_MO_antibody_45 rfl rfl rfl fl_MO_61 (rf_MO_23 hR) ?_
    refine Ev_iload_n (pc := 48) d_MO_antibody_48 rfl ?_
    refine Ev_iald (pc := 49) d_MO_antibody_49 rfl rfl n1 n2 ?_
    refine Ev_iconst (v := 1) (pc := 50) d_MO_antibody_50 (by decide) ?_
    refine Ev_iload_n (pc := 51) d_MO_antibody_51 rfl ?_
    refine Ev_ishl (pc := 52) d_MO_antibody_52 ?_
    refine Ev_ior (pc := 53) d_MO_antibody_53 ?_
    refine Ev_iast (pc := 54) d_MO_antibody_54 rfl rfl n1 n2 ?_
    show Ev E M_MO_antibody 55 [(0, vR 0 6), (1, vI x1), (2, vI x2)] [] (hp_MO_antibody_1_55 h x1 x2) P
    refine Ev_aload_n (pc := 55) d_MO_antibody_55 rfl ?_
    refine Ev_getR (pc := 56) d_MO_antibody_56 rfl rfl rfl fl_MO_61 (rf_MO_23 hR) ?_
    refine Ev_iload_n (pc := 59) d_MO_antibody_59 rfl ?_
    refine Ev_iald (pc := 60) d_MO_antibody_60 rfl rfl n1 n2 ?_
    refine Ev_callS (M' := M_MO_bitsOf) (as := [vI (gI (hp_MO_antibody_1_55 h x1 x2) 0 24 x1.toNatClampNeg)]) (st := []) (pc := 61) d_MO_antibody_61 rfl rfl rfl s_MO_bitsOf lk_MO_124 rfl rfl (c_MO_bitsOf  ?_)
    refine Ev_ireturn (pc := 64) d_MO_antibody_64 rfl rfl ?_
    simp only [f_MO_antibody_1_29, if_pos q2] at k
    exact k
  · refine Ev_iconst (v := 0) (pc := 37) d_MO_antibody_37 (by decide) ?_
    refine Ev_ireturn (pc := 38) d_MO_antibody_38 rfl rfl ?_
    simp only [f_MO_antibody_1_29, if_neg q2] at k
    exact k
def f_MO_antibody_1 (h : ev_H) (x1 : Int32) (x2 : Int32) : Int32 × ev_H := f_MO_antibody_1_29 h x1 x2
theorem c_MO_antibody_1 {E : ev_E} {P : Option ev_V ⊕ Nat → ev_H → Prop} {h : ev_H} {x1 : Int32} {x2 : Int32} (v0 : f_MO_isPatient h x1 = 1) (hR : rfs h) (n2 : ¬ x1 < 0) (n3 : x1.toNatClampNeg < 10) (k : P (.inl (some (vI (f_MO_antibody_1 h x1 x2).1))) (f_MO_antibody_1 h x1 x2).2) : Ev E M_MO_antibody 0 [(0, vR 0 6), (1, vI x1), (2, vI x2)] [] h P := by
  refine Ev_aload_n (pc := 0) d_MO_antibody_0 rfl ?_
  refine Ev_aload_n (pc := 1) d_MO_antibody_1 rfl ?_
  refine Ev_iload_n (pc := 2) d_MO_antibody_2 rfl ?_
  refine Ev_callV (M' := M_MO_isPatient) (as := [vI x1]) (st := [vR 0 6]) (a := 0) (i := 6) (pc := 3) d_MO_antibody_3 rfl rfl rfl rfl rfl rfl rfl v_MO_isPatient lk_MO_121 rfl rfl (c_MO_isPatientV (v := 1) v0 ?_)
  refine Ev_if_ne (tgt := 13) (pc := 6) d_MO_antibody_6 rfl (fun _ => ?_) (fun q => absurd q (by decide))
  refine Ev_iconst (v := 0) (pc := 13) d_MO_antibody_13 (by decide) ?_
  refine Ev_iload_n (pc := 14) d_MO_antibody_14 rfl ?_
  refine Ev_iconst (v := 0) (pc := 15) d_MO_antibody_15 (by decide) ?_
  refine Ev_bipush (v := 7) (pc := 16) d_MO_antibody_16 (by decide) ?_
  refine Ev_callS (M' := M_MO_in) (as := [vI x2, vI 0, vI 7]) (st := [vI 0, vR 0 6]) (pc := 18) d_MO_antibody_18 rfl rfl rfl s_MO_in lk_MO_77 rfl rfl (c_MO_in  ?_)
  refine Ev_if_ne (tgt := 28) (pc := 21) d_MO_antibody_21 rfl (fun q1 => ?_) (fun q1 => ?_)
  · refine Ev_iconst (v := 0) (pc := 28) d_MO_antibody_28 (by decide) ?_
    rw [f_MO_antibody_1] at k
    have j := c_MO_antibody_1_29 (E := E) (P := P) (h := h) (x1 := x1) (x2 := x2) hR n2 n3 k
    rw [m_MO_antibody_1_29, if_neg q1] at j
    exact j
  · refine Ev_iconst (v := 1) (pc := 24) d_MO_antibody_24 (by decide) ?_
    refine Ev_goto (tgt := 29) (pc := 25) d_MO_antibody_25 rfl ?_
    rw [f_MO_antibody_1] at k
    have j := c_MO_antibody_1_29 (E := E) (P := P) (h := h) (x1 := x1) (x2 := x2) hR n2 n3 k
    rw [m_MO_antibody_1_29, if_pos q1] at j
    exact j
def m_MO_antibody_0_29 (x1 : Int32) (x2 : Int32) : Int32 := (if (f_MO_in x2 0 7) = 0 then 1 else 0)
def f_MO_antibody_0_29 (h : ev_H) (x1 : Int32) (x2 : Int32) : Int32 × ev_H := (0, (sI h 0 6 0 1))
theorem c_MO_antibody_0_29 {E : ev_E} {P : Option ev_V ⊕ Nat → ev_H → Prop} {h : ev_H} {x1 : Int32} {x2 : Int32} (k : P (.inl (some (vI (f_MO_antibody_0_29 h x1 x2).1))) (f_MO_antibody_0_29 h x1 x2).2) : Ev E M_MO_antibody 29 [(0, vR 0 6), (1, vI x1), (2, vI x2)] [vI (m_MO_antibody_0_29 x1 x2), vI 1, vR 0 6] h P := by
  refine Ev_iconst (v := 0) (pc := 29) d_MO_antibody_29 (by decide) ?_
  refine Ev_iconst (v := 0) (pc := 30) d_MO_antibody_30 (by decide) ?_
  refine Ev_callV (M' := M_MO_refused) (as := [vI 1, vI (m_MO_antibody_0_29 x1 x2), vI 0, vI 0]) (st := []) (a := 0) (i := 6) (pc := 31) d_MO_antibody_31 rfl rfl rfl rfl rfl rfl rfl v_MO_refused lk_MO_85 rfl rfl (c_MO_refused1  ?_)
  refine Ev_if_eq (tgt := 39) (pc := 34) d_MO_antibody_34 rfl (fun q => absurd q (by decide)) (fun _ => ?_)
  refine Ev_iconst (v := 0) (pc := 37) d_MO_antibody_37 (by decide) ?_
  refine Ev_ireturn (pc := 38) d_MO_antibody_38 rfl rfl ?_
  rw [f_MO_antibody_0_29] at k
  exact k
def f_MO_antibody_0 (h : ev_H) (x1 : Int32) (x2 : Int32) : Int32 × ev_H := f_MO_antibody_0_29 h x1 x2
theorem c_MO_antibody_0 {E : ev_E} {P : Option ev_V ⊕ Nat → ev_H → Prop} {h : ev_H} {x1 : Int32} {x2 : Int32} (v0 : f_MO_isPatient h x1 = 0) (k : P (.inl (some (vI (f_MO_antibody_0 h x1 x2).1))) (f_MO_antibody_0 h x1 x2).2) : Ev E M_MO_antibody 0 [(0, vR 0 6), (1, vI x1), (2, vI x2)] [] h P := by
  refine Ev_aload_n (pc := 0) d_MO_antibody_0 rfl ?_
  refine Ev_aload_n (pc := 1) d_MO_antibody_1 rfl ?_
  refine Ev_iload_n (pc := 2) d_MO_antibody_2 rfl ?_
  refine Ev_callV (M' := M_MO_isPatient) (as := [vI x1]) (st := [vR 0 6]) (a := 0) (i := 6) (pc := 3) d_MO_antibody_3 rfl rfl rfl rfl rfl rfl rfl v_MO_isPatient lk_MO_121 rfl rfl (c_MO_isPatientV (v := 0) v0 ?_)
  refine Ev_if_ne (tgt := 13) (pc := 6) d_MO_antibody_6 rfl (fun q => absurd q (by decide)) (fun _ => ?_)
  refine Ev_iconst (v := 1) (pc := 9) d_MO_antibody_9 (by decide) ?_
  refine Ev_goto (tgt := 14) (pc := 10) d_MO_antibody_10 rfl ?_
  refine Ev_iload_n (pc := 14) d_MO_antibody_14 rfl ?_
  refine Ev_iconst (v := 0) (pc := 15) d_MO_antibody_15 (by decide) ?_
  refine Ev_bipush (v := 7) (pc := 16) d_MO_antibody_16 (by decide) ?_
  refine Ev_callS (M' := M_MO_in) (as := [vI x2, vI 0, vI 7]) (st := [vI 1, vR 0 6]) (pc := 18) d_MO_antibody_18 rfl rfl rfl s_MO_in lk_MO_77 rfl rfl (c_MO_in  ?_)
  refine Ev_if_ne (tgt := 28) (pc := 21) d_MO_antibody_21 rfl (fun q1 => ?_) (fun q1 => ?_)
  · refine Ev_iconst (v := 0) (pc := 28) d_MO_antibody_28 (by decide) ?_
    rw [f_MO_antibody_0] at k
    have j := c_MO_antibody_0_29 (E := E) (P := P) (h := h) (x1 := x1) (x2 := x2)  k
    rw [m_MO_antibody_0_29, if_neg q1] at j
    exact j
  · refine Ev_iconst (v := 1) (pc := 24) d_MO_antibody_24 (by decide) ?_
    refine Ev_goto (tgt := 29) (pc := 25) d_MO_antibody_25 rfl ?_
    rw [f_MO_antibody_0] at k
    have j := c_MO_antibody_0_29 (E := E) (P := P) (h := h) (x1 := x1) (x2 := x2)  k
    rw [m_MO_antibody_0_29, if_pos q1] at j
    exact j
theorem c_MO_init_L167s {E : ev_E} {P : Option ev_V ⊕ Nat → ev_H → Prop} {h : ev_H} {a : Nat} (q0 : ¬ 480 ≤ (nI a)) (hR : rfs h) (n2 : a < 480) (k : Ev E M_MO_init 167 [(0, vR 0 6), (1, vI ((nI a) + 1))] [] (sI h 0 26 a (-1)) P) : Ev E M_MO_init 167 [(0, vR 0 6), (1, vI (nI a))] [] h P := by
  refine Ev_iload_n (pc := 167) d_MO_init_167 rfl ?_
  refine Ev_sipush (v := 480) (pc := 168) d_MO_init_168 (by decide) ?_
  refine Ev_icmp_ge (tgt := 187) (pc := 171) d_MO_init_171 rfl (fun q => absurd q q0) (fun _ => ?_)
  refine Ev_aload_n (pc := 174) d_MO_init_174 rfl ?_
  refine Ev_getR (pc := 175) d_MO_init_175 rfl rfl rfl fl_MO_67 (rf_MO_25 hR) ?_
  refine Ev_iload_n (pc := 178) d_MO_init_178 rfl ?_
  refine Ev_iconst (v := -1) (pc := 179) d_MO_init_179 (by decide) ?_
  refine Ev_iastJ (pc := 180) d_MO_init_180 rfl rfl (nIp n2) (nIc n2) n2 ?_
  refine Ev_iinc (d := 1) (pc := 181) d_MO_init_181 rfl (by decide) rfl ?_
  refine Ev_goto (tgt := 167) (pc := 184) d_MO_init_184 rfl ?_
  exact k
def r_MO_init_L167 (h : ev_H) : Nat → ev_H
  | 0 => h
  | a + 1 => (sI (r_MO_init_L167 h  a) 0 26 a (-1))
theorem lp_MO_init_L167 {E : ev_E} {P : Option ev_V ⊕ Nat → ev_H → Prop} {h : ev_H} (n : Nat) (hn : n ≤ 480) (hb : 480 = nI n) (hR : ∀ a, a < n → rfs (r_MO_init_L167 h  a)) (k : Ev E M_MO_init 167 [(0, vR 0 6), (1, vI (nI n))] [] (r_MO_init_L167 h  n) P) : Ev E M_MO_init 167 [(0, vR 0 6), (1, vI 0)] [] h P := by
  refine Ev_for n (fun a => [(0, vR 0 6), (1, vI (nI a))]) (fun a => (r_MO_init_L167 h  a)) (fun a ha k => ?_) k
  have k2 : Ev E M_MO_init 167 [(0, vR 0 6), (1, vI (nI (a + 1)))] [] (r_MO_init_L167 h  (a + 1)) P := k
  rw [nI_succ] at k2
  exact c_MO_init_L167s (by rw [hb]; exact nI_ge ha (Nat.lt_of_le_of_lt hn (by decide))) (hR a ha) (Nat.lt_of_lt_of_le ha (Nat.le_trans hn (by decide))) k2
def hp_MO_init_52 (h : ev_H) : ev_H := sR (nw (sR (nw (sR (nw (sR (nw (sR (nw (sR (nw h 0) 0 6 3 (vR 0 7)) 0) 0 6 4 (vR 0 8)) 0) 0 6 5 (vR 0 9)) 0) 0 6 6 (vR 0 10)) 0) 0 6 7 (vR 0 11)) 0) 0 6 8 (vR 0 12)
def hp_MO_init_92 (h : ev_H) : ev_H := sR (nw (sR (nw (sR (nw (sR (nw (sR (nw (hp_MO_init_52 h) 0) 0 6 9 (vR 0 13)) 0) 0 6 10 (vR 0 14)) 0) 0 6 11 (vR 0 15)) 0) 0 6 12 (vR 0 16)) 0) 0 6 13 (vR 0 17)
def hp_MO_init_132 (h : ev_H) : ev_H := sR (nw (sR (nw (sR (nw (sR (nw (sR (nw (hp_MO_init_92 h) 0) 0 6 14 (vR 0 18)) 0) 0 6 15 (vR 0 19)) 0) 0 6 16 (vR 0 20)) 0) 0 6 20 (vR 0 21)) 0) 0 6 21 (vR 0 22)
def hp_MO_init_167 (h : ev_H) : ev_H := (r_MO_init_L167 (sR (nw (sR (nw (sR (nw (sR (nw (hp_MO_init_132 h) 0) 0 6 22 (vR 0 23)) 0) 0 6 23 (vR 0 24)) 0) 0 6 24 (vR 0 25)) 0) 0 6 25 (vR 0 26))  480)
def f_MO_init (h : ev_H) : ev_H := (hp_MO_init_167 h)
theorem c_MO_init {E : ev_E} {P : Option ev_V ⊕ Nat → ev_H → Prop} {h : ev_H} (n0 : cZ h + 20 ≤ ZM) (n1 : cF h = 7) (n2 : ∀ a, a < 480 → rfs (r_MO_init_L167 (sR (nw (sR (nw (sR (nw (sR (nw (hp_MO_init_132 h) 0) 0 6 22 (vR 0 23)) 0) 0 6 23 (vR 0 24)) 0) 0 6 24 (vR 0 25)) 0) 0 6 25 (vR 0 26))  a)) (k : P (.inl none) (f_MO_init h)) : Ev E M_MO_init 0 [(0, vR 0 6)] [] h P := by
  refine Ev_aload_n (pc := 0) d_MO_init_0 rfl ?_
  refine Ev_objInit (pc := 1) d_MO_init_1 lk_MO_1 w_oi w_oc rfl ?_
  refine Ev_aload_n (pc := 4) d_MO_init_4 rfl ?_
  refine Ev_bipush (v := 48) (pc := 5) d_MO_init_5 (by decide) ?_
  refine Ev_newaI (k := 0) (i := 7) (n := 48) (pc := 7) d_MO_init_7 rfl (by show cF h + 0 = 7; omega) rfl (by decide) (by decide) rfl w_ac_int (by show cZ h + 0 < ZM; omega) ?_
  refine Ev_putRF (pc := 9) d_MO_init_9 rfl rfl rfl fl_MO_7 rfl rfl rfl rfl ?_
  refine Ev_aload_n (pc := 12) d_MO_init_12 rfl ?_
  refine Ev_bipush (v := 48) (pc := 13) d_MO_init_13 (by decide) ?_
  refine Ev_newaI (k := 0) (i := 8) (n := 48) (pc := 15) d_MO_init_15 rfl (by show cF h + 1 = 8; omega) rfl (by decide) (by decide) rfl w_ac_int (by show cZ h + 1 < ZM; omega) ?_
  refine Ev_putRF (pc := 17) d_MO_init_17 rfl rfl rfl fl_MO_13 rfl rfl rfl rfl ?_
  refine Ev_aload_n (pc := 20) d_MO_init_20 rfl ?_
  refine Ev_bipush (v := 48) (pc := 21) d_MO_init_21 (by decide) ?_
  refine Ev_newaI (k := 0) (i := 9) (n := 48) (pc := 23) d_MO_init_23 rfl (by show cF h + 2 = 9; omega) rfl (by decide) (by decide) rfl w_ac_int (by show cZ h + 2 < ZM; omega) ?_
  refine Ev_putRF (pc := 25) d_MO_init_25 rfl rfl rfl fl_MO_16 rfl rfl rfl rfl ?_
  refine Ev_aload_n (pc := 28) d_MO_init_28 rfl ?_
  refine Ev_bipush (v := 48) (pc := 29) d_MO_init_29 (by decide) ?_
  refine Ev_newaI (k := 0) (i := 10) (n := 48) (pc := 31) d_MO_init_31 rfl (by show cF h + 3 = 10; omega) rfl (by decide) (by decide) rfl w_ac_int (by show cZ h + 3 < ZM; omega) ?_
  refine Ev_putRF (pc := 33) d_MO_init_33 rfl rfl rfl fl_MO_19 rfl rfl rfl rfl ?_
  refine Ev_aload_n (pc := 36) d_MO_init_36 rfl ?_
  refine Ev_bipush (v := 48) (pc := 37) d_MO_init_37 (by decide) ?_
  refine Ev_newaI (k := 0) (i := 11) (n := 48) (pc := 39) d_MO_init_39 rfl (by show cF h + 4 = 11; omega) rfl (by decide) (by decide) rfl w_ac_int (by show cZ h + 4 < ZM; omega) ?_
  refine Ev_putRF (pc := 41) d_MO_init_41 rfl rfl rfl fl_MO_22 rfl rfl rfl rfl ?_
  refine Ev_aload_n (pc := 44) d_MO_init_44 rfl ?_
  refine Ev_bipush (v := 48) (pc := 45) d_MO_init_45 (by decide) ?_
  refine Ev_newaI (k := 0) (i := 12) (n := 48) (pc := 47) d_MO_init_47 rfl (by show cF h + 5 = 12; omega) rfl (by decide) (by decide) rfl w_ac_int (by show cZ h + 5 < ZM; omega) ?_
  refine Ev_putRF (pc := 49) d_MO_init_49 rfl rfl rfl fl_MO_25 rfl rfl rfl rfl ?_
  show Ev E M_MO_init 52 [(0, vR 0 6)] [] (hp_MO_init_52 h) P
  refine Ev_aload_n (pc := 52) d_MO_init_52 rfl ?_
  refine Ev_bipush (v := 48) (pc := 53) d_MO_init_53 (by decide) ?_
  refine Ev_newaI (k := 0) (i := 13) (n := 48) (pc := 55) d_MO_init_55 rfl (by show cF h + 6 = 13; omega) rfl (by decide) (by decide) rfl w_ac_int (by show cZ h + 6 < ZM; omega) ?_
  refine Ev_putRF (pc := 57) d_MO_init_57 rfl rfl rfl fl_MO_28 rfl rfl rfl rfl ?_
  refine Ev_aload_n (pc := 60) d_MO_init_60 rfl ?_
  refine Ev_bipush (v := 48) (pc := 61) d_MO_init_61 (by decide) ?_
  refine Ev_newaI (k := 0) (i := 14) (n := 48) (pc := 63) d_MO_init_63 rfl (by show cF h + 7 = 14; omega) rfl (by decide) (by decide) rfl w_ac_int (by show cZ h + 7 < ZM; omega) ?_
  refine Ev_putRF (pc := 65) d_MO_init_65 rfl rfl rfl fl_MO_31 rfl rfl rfl rfl ?_
  refine Ev_aload_n (pc := 68) d_MO_init_68 rfl ?_
  refine Ev_bipush (v := 48) (pc := 69) d_MO_init_69 (by decide) ?_
  refine Ev_newaI (k := 0) (i := 15) (n := 48) (pc := 71) d_MO_init_71 rfl (by show cF h + 8 = 15; omega) rfl (by decide) (by decide) rfl w_ac_int (by show cZ h + 8 < ZM; omega) ?_
  refine Ev_putRF (pc := 73) d_MO_init_73 rfl rfl rfl fl_MO_34 rfl rfl rfl rfl ?_
  refine Ev_aload_n (pc := 76) d_MO_init_76 rfl ?_
  refine Ev_bipush (v := 48) (pc := 77) d_MO_init_77 (by decide) ?_
  refine Ev_newaI (k := 0) (i := 16) (n := 48) (pc := 79) d_MO_init_79 rfl (by show cF h + 9 = 16; omega) rfl (by decide) (by decide) rfl w_ac_int (by show cZ h + 9 < ZM; omega) ?_
  refine Ev_putRF (pc := 81) d_MO_init_81 rfl rfl rfl fl_MO_37 rfl rfl rfl rfl ?_
  refine Ev_aload_n (pc := 84) d_MO_init_84 rfl ?_
  refine Ev_bipush (v := 48) (pc := 85) d_MO_init_85 (by decide) ?_
  refine Ev_newaI (k := 0) (i := 17) (n := 48) (pc := 87) d_MO_init_87 rfl (by show cF h + 10 = 17; omega) rfl (by decide) (by decide) rfl w_ac_int (by show cZ h + 10 < ZM; omega) ?_
  refine Ev_putRF (pc := 89) d_MO_init_89 rfl rfl rfl fl_MO_40 rfl rfl rfl rfl ?_
  show Ev E M_MO_init 92 [(0, vR 0 6)] [] (hp_MO_init_92 h) P
  refine Ev_aload_n (pc := 92) d_MO_init_92 rfl ?_
  refine Ev_bipush (v := 48) (pc := 93) d_MO_init_93 (by decide) ?_
  refine Ev_newaI (k := 0) (i := 18) (n := 48) (pc := 95) d_MO_init_95 rfl (by show cF h + 11 = 18; omega) rfl (by decide) (by decide) rfl w_ac_int (by show cZ h + 11 < ZM; omega) ?_
  refine Ev_putRF (pc := 97) d_MO_init_97 rfl rfl rfl fl_MO_43 rfl rfl rfl rfl ?_
  refine Ev_aload_n (pc := 100) d_MO_init_100 rfl ?_
  refine Ev_bipush (v := 48) (pc := 101) d_MO_init_101 (by decide) ?_
  refine Ev_newaI (k := 0) (i := 19) (n := 48) (pc := 103) d_MO_init_103 rfl (by show cF h + 12 = 19; omega) rfl (by decide) (by decide) rfl w_ac_int (by show cZ h + 12 < ZM; omega) ?_
  refine Ev_putRF (pc := 105) d_MO_init_105 rfl rfl rfl fl_MO_46 rfl rfl rfl rfl ?_
  refine Ev_aload_n (pc := 108) d_MO_init_108 rfl ?_
  refine Ev_bipush (v := 48) (pc := 109) d_MO_init_109 (by decide) ?_
  refine Ev_newaI (k := 0) (i := 20) (n := 48) (pc := 111) d_MO_init_111 rfl (by show cF h + 13 = 20; omega) rfl (by decide) (by decide) rfl w_ac_int (by show cZ h + 13 < ZM; omega) ?_
  refine Ev_putRF (pc := 113) d_MO_init_113 rfl rfl rfl fl_MO_49 rfl rfl rfl rfl ?_
  refine Ev_aload_n (pc := 116) d_MO_init_116 rfl ?_
  refine Ev_bipush (v := 10) (pc := 117) d_MO_init_117 (by decide) ?_
  refine Ev_newaI (k := 0) (i := 21) (n := 10) (pc := 119) d_MO_init_119 rfl (by show cF h + 14 = 21; omega) rfl (by decide) (by decide) rfl w_ac_int (by show cZ h + 14 < ZM; omega) ?_
  refine Ev_putRF (pc := 121) d_MO_init_121 rfl rfl rfl fl_MO_52 rfl rfl rfl rfl ?_
  refine Ev_aload_n (pc := 124) d_MO_init_124 rfl ?_
  refine Ev_bipush (v := 10) (pc := 125) d_MO_init_125 (by decide) ?_
  refine Ev_newaI (k := 0) (i := 22) (n := 10) (pc := 127) d_MO_init_127 rfl (by show cF h + 15 = 22; omega) rfl (by decide) (by decide) rfl w_ac_int (by show cZ h + 15 < ZM; omega) ?_
  refine Ev_putRF (pc := 129) d_MO_init_129 rfl rfl rfl fl_MO_55 rfl rfl rfl rfl ?_
  show Ev E M_MO_init 132 [(0, vR 0 6)] [] (hp_MO_init_132 h) P
  refine Ev_aload_n (pc := 132) d_MO_init_132 rfl ?_
  refine Ev_bipush (v := 10) (pc := 133) d_MO_init_133 (by decide) ?_
  refine Ev_newaI (k := 0) (i := 23) (n := 10) (pc := 135) d_MO_init_135 rfl (by show cF h + 16 = 23; omega) rfl (by decide) (by decide) rfl w_ac_int (by show cZ h + 16 < ZM; omega) ?_
  refine Ev_putRF (pc := 137) d_MO_init_137 rfl rfl rfl fl_MO_58 rfl rfl rfl rfl ?_
  refine Ev_aload_n (pc := 140) d_MO_init_140 rfl ?_
  refine Ev_bipush (v := 10) (pc := 141) d_MO_init_141 (by decide) ?_
  refine Ev_newaI (k := 0) (i := 24) (n := 10) (pc := 143) d_MO_init_143 rfl (by show cF h + 17 = 24; omega) rfl (by decide) (by decide) rfl w_ac_int (by show cZ h + 17 < ZM; omega) ?_
  refine Ev_putRF (pc := 145) d_MO_init_145 rfl rfl rfl fl_MO_61 rfl rfl rfl rfl ?_
  refine Ev_aload_n (pc := 148) d_MO_init_148 rfl ?_
  refine Ev_bipush (v := 10) (pc := 149) d_MO_init_149 (by decide) ?_
  refine Ev_newaI (k := 0) (i := 25) (n := 10) (pc := 151) d_MO_init_151 rfl (by show cF h + 18 = 25; omega) rfl (by decide) (by decide) rfl w_ac_int (by show cZ h + 18 < ZM; omega) ?_
  refine Ev_putRF (pc := 153) d_MO_init_153 rfl rfl rfl fl_MO_64 rfl rfl rfl rfl ?_
  refine Ev_aload_n (pc := 156) d_MO_init_156 rfl ?_
  refine Ev_sipush (v := 480) (pc := 157) d_MO_init_157 (by decide) ?_
  refine Ev_newaI (k := 0) (i := 26) (n := 480) (pc := 160) d_MO_init_160 rfl (by show cF h + 19 = 26; omega) rfl (by decide) (by decide) rfl w_ac_int (by show cZ h + 19 < ZM; omega) ?_
  refine Ev_putRF (pc := 162) d_MO_init_162 rfl rfl rfl fl_MO_67 rfl rfl rfl rfl ?_
  refine Ev_iconst (v := 0) (pc := 165) d_MO_init_165 (by decide) ?_
  refine Ev_istore_n (pc := 166) d_MO_init_166 rfl ?_
  refine lp_MO_init_L167 480 (by decide) (by decide) n2 ?_
  show Ev E M_MO_init 167 [(0, vR 0 6), (1, vI (nI 480))] [] (hp_MO_init_167 h) P
  refine Ev_iload_n (pc := 167) d_MO_init_167 rfl ?_
  refine Ev_sipush (v := 480) (pc := 168) d_MO_init_168 (by decide) ?_
  refine Ev_icmp_ge (tgt := 187) (pc := 171) d_MO_init_171 rfl (fun _ => ?_) (fun q => absurd (lpx (by decide)) q)
  refine Ev_return (pc := 187) d_MO_init_187 rfl ?_
  rw [f_MO_init] at k
  exact k