/-! contracts (by program) -/
def m_MO_antigen_1_38 (x1 : Int32) (x2 : Int32) (x3 : Int32) : Int32 := (if (f_MO_in x2 0 7) = 0 then 1 else (if (f_MO_in x3 0 2) = 0 then 1 else 0))
def m_MO_antigen_1_59 (h : ev_H) (x1 : Int32) (x2 : Int32) (x3 : Int32) : Int32 := (if (f_MO_stateOf h x1) = 0 then 0 else 1)
def m_MO_antigen_1_102 (h : ev_H) (x1 : Int32) (x2 : Int32) (x3 : Int32) : Int32 := (if x3 = 1 then (gI ((f_MO_refused h 0 (m_MO_antigen_1_38 x1 x2 x3) (m_MO_antigen_1_59 h x1 x2 x3) 0).2) 0 10 x1.toNatClampNeg) ||| (1 <<< (x2 &&& 31)) else (gI ((f_MO_refused h 0 (m_MO_antigen_1_38 x1 x2 x3) (m_MO_antigen_1_59 h x1 x2 x3) 0).2) 0 10 x1.toNatClampNeg) &&& ((1 <<< (x2 &&& 31)) ^^^ (-1)))
def m_MO_antigen_1_137 (h : ev_H) (x1 : Int32) (x2 : Int32) (x3 : Int32) : Int32 := (if x3 = 0 then (gI (sI ((f_MO_refused h 0 (m_MO_antigen_1_38 x1 x2 x3) (m_MO_antigen_1_59 h x1 x2 x3) 0).2) 0 10 x1.toNatClampNeg (m_MO_antigen_1_102 h x1 x2 x3)) 0 11 x1.toNatClampNeg) ||| (1 <<< (x2 &&& 31)) else (gI (sI ((f_MO_refused h 0 (m_MO_antigen_1_38 x1 x2 x3) (m_MO_antigen_1_59 h x1 x2 x3) 0).2) 0 10 x1.toNatClampNeg (m_MO_antigen_1_102 h x1 x2 x3)) 0 11 x1.toNatClampNeg) &&& ((1 <<< (x2 &&& 31)) ^^^ (-1)))
def hp_MO_antigen_1_138 (h : ev_H) (x1 : Int32) (x2 : Int32) (x3 : Int32) : ev_H := sI (sI ((f_MO_refused h 0 (m_MO_antigen_1_38 x1 x2 x3) (m_MO_antigen_1_59 h x1 x2 x3) 0).2) 0 10 x1.toNatClampNeg (m_MO_antigen_1_102 h x1 x2 x3)) 0 11 x1.toNatClampNeg (m_MO_antigen_1_137 h x1 x2 x3)
def f_MO_antigen_1_137 (h : ev_H) (x1 : Int32) (x2 : Int32) (x3 : Int32) : ev_H := (hp_MO_antigen_1_138 h x1 x2 x3)
theorem c_MO_antigen_1_137 {E : ev_E} {P : Option ev_V ⊕ Nat → ev_H → Prop} {h : ev_H} {x1 : Int32} {x2 : Int32} {x3 : Int32} (n0 : ¬ x1 < 0) (n1 : x1.toNatClampNeg < 48) (k : P (.inl none) (f_MO_antigen_1_137 h x1 x2 x3)) : Ev E M_MO_antigen 137 [(0, vR 0 6), (1, vI x1), (2, vI x2), (3, vI x3)] [vI (m_MO_antigen_1_137 h x1 x2 x3), vI x1, vR 0 11] (sI ((f_MO_refused h 0 (m_MO_antigen_1_38 x1 x2 x3) (m_MO_antigen_1_59 h x1 x2 x3) 0).2) 0 10 x1.toNatClampNeg (m_MO_antigen_1_102 h x1 x2 x3)) P := by
  refine Ev_iast (pc := 137) d_MO_antigen_137 rfl rfl n0 n1 ?_
  show Ev E M_MO_antigen 138 [(0, vR 0 6), (1, vI x1), (2, vI x2), (3, vI x3)] [] (hp_MO_antigen_1_138 h x1 x2 x3) P
  refine Ev_return (pc := 138) d_MO_antigen_138 rfl ?_
  rw [f_MO_antigen_1_137] at k
  exact k
def f_MO_antigen_1_102 (h : ev_H) (x1 : Int32) (x2 : Int32) (x3 : Int32) : ev_H := f_MO_antigen_1_137 h x1 x2 x3
theorem c_MO_antigen_1_102 {E : ev_E} {P : Option ev_V ⊕ Nat → ev_H → Prop} {h : ev_H} {x1 : Int32} {x2 : Int32} {x3 : Int32} (n1 : ¬ x1 < 0) (n2 : x1.toNatClampNeg < 48) (hR : rfs h) (k : P (.inl none) (f_MO_antigen_1_102 h x1 x2 x3)) : Ev E M_MO_antigen 102 [(0, vR 0 6), (1, vI x1), (2, vI x2), (3, vI x3)] [vI (m_MO_antigen_1_102 h x1 x2 x3), vI x1, vR 0 10] ((f_MO_refused h 0 (m_MO_antigen_1_38 x1 x2 x3) (m_MO_antigen_1_59 h x1 x2 x3) 0).2) P := by
  refine Ev_iast (pc := 102) d_MO_antigen_102 rfl rfl n1 n2 ?_
  refine Ev_aload_n (pc := 103) d_MO_antigen_103 rfl ?_
  refine Ev_getR (pc := 104) d_MO_antigen_104 rfl rfl rfl fl_MO_22 (rf_MO_7 hR) ?_
  refine Ev_iload_n (pc := 107) d_MO_antigen_107 rfl ?_
  refine Ev_iload_n (pc := 108) d_MO_antigen_108 rfl ?_
  refine Ev_if_ne (tgt := 125) (pc := 109) d_MO_antigen_109 rfl (fun q6 => ?_) (fun q6 => ?_)
  · refine Ev_aload_n (pc := 125) d_MO_antigen_125 rfl ?_
    refine Ev_getR (pc := 126) d_MO_antigen_126 rfl rfl rfl fl_MO_22 (rf_MO_7 hR) ?_
    refine Ev_iload_n (pc := 129) d_MO_antigen_129 rfl ?_
    refine Ev_iald (pc := 130) d_MO_antigen_130 rfl rfl n1 n2 ?_
    refine Ev_iconst (v := 1) (pc := 131) d_MO_antigen_131 (by decide) ?_
    refine Ev_iload_n (pc := 132) d_MO_antigen_132 rfl ?_
    refine Ev_ishl (pc := 133) d_MO_antigen_133 ?_
    refine Ev_iconst (v := -1) (pc := 134) d_MO_antigen_134 (by decide) ?_
    refine Ev_ixor (pc := 135) d_MO_antigen_135 ?_
    refine Ev_iand (pc := 136) d_MO_antigen_136 ?_
    rw [f_MO_antigen_1_102] at k
    have j := c_MO_antigen_1_137 (E := E) (P := P) (h := h) (x1 := x1) (x2 := x2) (x3 := x3) n1 n2 k
    rw [m_MO_antigen_1_137, if_neg q6] at j
    exact j
  · refine Ev_aload_n (pc := 112) d_MO_antigen_112 rfl ?_
    refine Ev_getR (pc := 113) d_MO_antigen_113 rfl rfl rfl fl_MO_22 (rf_MO_7 hR) ?_
    refine Ev_iload_n (pc := 116) d_MO_antigen_116 rfl ?_
    refine Ev_iald (pc := 117) d_MO_antigen_117 rfl rfl n1 n2 ?_
    refine Ev_iconst (v := 1) (pc := 118) d_MO_antigen_118 (by decide) ?_
    refine Ev_iload_n (pc := 119) d_MO_antigen_119 rfl ?_
    refine Ev_ishl (pc := 120) d_MO_antigen_120 ?_
    refine Ev_ior (pc := 121) d_MO_antigen_121 ?_
    refine Ev_goto (tgt := 137) (pc := 122) d_MO_antigen_122 rfl ?_
    rw [f_MO_antigen_1_102] at k
    have j := c_MO_antigen_1_137 (E := E) (P := P) (h := h) (x1 := x1) (x2 := x2) (x3 := x3) n1 n2 k
    rw [m_MO_antigen_1_137, if_pos q6] at j
    exact j
def f_MO_antigen_1_59 (h : ev_H) (x1 : Int32) (x2 : Int32) (x3 : Int32) : ev_H := (if ((f_MO_refused h 0 (m_MO_antigen_1_38 x1 x2 x3) (m_MO_antigen_1_59 h x1 x2 x3) 0).1) = 0 then f_MO_antigen_1_102 h x1 x2 x3 else ((f_MO_refused h 0 (m_MO_antigen_1_38 x1 x2 x3) (m_MO_antigen_1_59 h x1 x2 x3) 0).2))
theorem c_MO_antigen_1_59 {E : ev_E} {P : Option ev_V ⊕ Nat → ev_H → Prop} {h : ev_H} {x1 : Int32} {x2 : Int32} {x3 : Int32} (hR : rfs h) (n1 : ¬ x1 < 0) (n2 : x1.toNatClampNeg < 48) (k : P (.inl none) (f_MO_antigen_1_59 h x1 x2 x3)) : Ev E M_MO_antigen 59 [(0, vR 0 6), (1, vI x1), (2, vI x2), (3, vI x3)] [vI (m_MO_antigen_1_59 h x1 x2 x3), vI (m_MO_antigen_1_38 x1 x2 x3), vI 0, vR 0 6] h P := by
  refine Ev_iconst (v := 0) (pc := 59) d_MO_antigen_59 (by decide) ?_
  refine Ev_callV (M' := M_MO_refused) (as := [vI 0, vI (m_MO_antigen_1_38 x1 x2 x3), vI (m_MO_antigen_1_59 h x1 x2 x3), vI 0]) (st := []) (a := 0) (i := 6) (pc := 60) d_MO_antigen_60 rfl rfl rfl rfl rfl rfl rfl v_MO_refused lk_MO_85 rfl rfl (c_MO_refused  ?_)
  refine Ev_if_eq (tgt := 67) (pc := 63) d_MO_antigen_63 rfl (fun q4 => ?_) (fun q4 => ?_)
  · refine Ev_aload_n (pc := 67) d_MO_antigen_67 rfl ?_
    refine Ev_getR (pc := 68) d_MO_antigen_68 rfl rfl rfl fl_MO_19 (rf_MO_6 hR) ?_
    refine Ev_iload_n (pc := 71) d_MO_antigen_71 rfl ?_
    refine Ev_iload_n (pc := 72) d_MO_antigen_72 rfl ?_
    refine Ev_iconst (v := 1) (pc := 73) d_MO_antigen_73 (by decide) ?_
    refine Ev_icmp_ne (tgt := 90) (pc := 74) d_MO_antigen_74 rfl (fun q5 => ?_) (fun q5 => ?_)
    · refine Ev_aload_n (pc := 90) d_MO_antigen_90 rfl ?_
      refine Ev_getR (pc := 91) d_MO_antigen_91 rfl rfl rfl fl_MO_19 (rf_MO_6 hR) ?_
      refine Ev_iload_n (pc := 94) d_MO_antigen_94 rfl ?_
      refine Ev_iald (pc := 95) d_MO_antigen_95 rfl rfl n1 n2 ?_
      refine Ev_iconst (v := 1) (pc := 96) d_MO_antigen_96 (by decide) ?_
      refine Ev_iload_n (pc := 97) d_MO_antigen_97 rfl ?_
      refine Ev_ishl (pc := 98) d_MO_antigen_98 ?_
      refine Ev_iconst (v := -1) (pc := 99) d_MO_antigen_99 (by decide) ?_
      refine Ev_ixor (pc := 100) d_MO_antigen_100 ?_
      refine Ev_iand (pc := 101) d_MO_antigen_101 ?_
      rw [f_MO_antigen_1_59, if_pos q4] at k
      have j := c_MO_antigen_1_102 (E := E) (P := P) (h := h) (x1 := x1) (x2 := x2) (x3 := x3) n1 n2 hR k
      rw [m_MO_antigen_1_102, if_neg q5] at j
      exact j
    · refine Ev_aload_n (pc := 77) d_MO_antigen_77 rfl ?_
      refine Ev_getR (pc := 78) d_MO_antigen_78 rfl rfl rfl fl_MO_19 (rf_MO_6 hR) ?_
      refine Ev_iload_n (pc := 81) d_MO_antigen_81 rfl ?_
      refine Ev_iald (pc := 82) d_MO_antigen_82 rfl rfl n1 n2 ?_
      refine Ev_iconst (v := 1) (pc := 83) d_MO_antigen_83 (by decide) ?_
      refine Ev_iload_n (pc := 84) d_MO_antigen_84 rfl ?_
      refine Ev_ishl (pc := 85) d_MO_antigen_85 ?_
      refine Ev_ior (pc := 86) d_MO_antigen_86 ?_
      refine Ev_goto (tgt := 102) (pc := 87) d_MO_antigen_87 rfl ?_
      rw [f_MO_antigen_1_59, if_pos q4] at k
      have j := c_MO_antigen_1_102 (E := E) (P := P) (h := h) (x1 := x1) (x2 := x2) (x3 := x3) n1 n2 hR k
      rw [m_MO_antigen_1_102, if_pos q5] at j
      exact j
  · refine Ev_return (pc := 66) d_MO_antigen_66 rfl ?_
    rw [f_MO_antigen_1_59, if_neg q4] at k
    exact k
def f_MO_antigen_1_38 (h : ev_H) (x1 : Int32) (x2 : Int32) (x3 : Int32) : ev_H := f_MO_antigen_1_59 h x1 x2 x3
theorem c_MO_antigen_1_38 {E : ev_E} {P : Option ev_V ⊕ Nat → ev_H → Prop} {h : ev_H} {x1 : Int32} {x2 : Int32} {x3 : Int32} (v0 : f_MO_isUnit h x1 = 1) (hR : rfs h) (n2 : ¬ x1 < 0) (n3 : x1.toNatClampNeg < 48) (k : P (.inl none) (f_MO_antigen_1_38 h x1 x2 x3)) : Ev E M_MO_antigen 38 [(0, vR 0 6), (1, vI x1), (2, vI x2), (3, vI x3)] [vI (m_MO_antigen_1_38 x1 x2 x3), vI 0, vR 0 6] h P := by
  refine Ev_aload_n (pc := 38) d_MO_antigen_38 rfl ?_
  refine Ev_iload_n (pc := 39) d_MO_antigen_39 rfl ?_
  refine Ev_callV (M' := M_MO_isUnit) (as := [vI x1]) (st := [vI (m_MO_antigen_1_38 x1 x2 x3), vI 0, vR 0 6]) (a := 0) (i := 6) (pc := 40) d_MO_antigen_40 rfl rfl rfl rfl rfl rfl rfl v_MO_isUnit lk_MO_111 rfl rfl (c_MO_isUnitV (v := 1) v0 ?_)
  refine Ev_if_eq (tgt := 58) (pc := 43) d_MO_antigen_43 rfl (fun q => absurd q (by decide)) (fun _ => ?_)
  refine Ev_aload_n (pc := 46) d_MO_antigen_46 rfl ?_
  refine Ev_iload_n (pc := 47) d_MO_antigen_47 rfl ?_
  refine Ev_callV (M' := M_MO_stateOf) (as := [vI x1]) (st := [vI (m_MO_antigen_1_38 x1 x2 x3), vI 0, vR 0 6]) (a := 0) (i := 6) (pc := 48) d_MO_antigen_48 rfl rfl rfl rfl rfl rfl rfl v_MO_stateOf lk_MO_95 rfl rfl (c_MO_stateOf hR n2 n3 ?_)
  refine Ev_if_eq (tgt := 58) (pc := 51) d_MO_antigen_51 rfl (fun q3 => ?_) (fun q3 => ?_)
  · refine Ev_iconst (v := 0) (pc := 58) d_MO_antigen_58 (by decide) ?_
    rw [f_MO_antigen_1_38] at k
    have j := c_MO_antigen_1_59 (E := E) (P := P) (h := h) (x1 := x1) (x2 := x2) (x3 := x3) hR n2 n3 k
    rw [m_MO_antigen_1_59, if_pos q3] at j
    exact j
  · refine Ev_iconst (v := 1) (pc := 54) d_MO_antigen_54 (by decide) ?_
    refine Ev_goto (tgt := 59) (pc := 55) d_MO_antigen_55 rfl ?_
    rw [f_MO_antigen_1_38] at k
    have j := c_MO_antigen_1_59 (E := E) (P := P) (h := h) (x1 := x1) (x2 := x2) (x3 := x3) hR n2 n3 k
    rw [m_MO_antigen_1_59, if_neg q3] at j
    exact j
def f_MO_antigen_1 (h : ev_H) (x1 : Int32) (x2 : Int32) (x3 : Int32) : ev_H := f_MO_antigen_1_38 h x1 x2 x3
theorem c_MO_antigen_1 {E : ev_E} {P : Option ev_V ⊕ Nat → ev_H → Prop} {h : ev_H} {x1 : Int32} {x2 : Int32} {x3 : Int32} (v0 : f_MO_isUnit h x1 = 1) (hR : rfs h) (n2 : ¬ x1 < 0) (n3 : x1.toNatClampNeg < 48) (k : P (.inl none) (f_MO_antigen_1 h x1 x2 x3)) : Ev E M_MO_antigen 0 [(0, vR 0 6), (1, vI x1), (2, vI x2), (3, vI x3)] [] h P := by
  refine Ev_aload_n (pc := 0) d_MO_antigen_0 rfl ?_
  refine Ev_aload_n (pc := 1) d_MO_antigen_1 rfl ?_
  refine Ev_iload_n (pc := 2) d_MO_antigen_2 rfl ?_
  refine Ev_callV (M' := M_MO_isUnit) (as := [vI x1]) (st := [vR 0 6]) (a := 0) (i := 6) (pc := 3) d_MO_antigen_3 rfl rfl rfl rfl rfl rfl rfl v_MO_isUnit lk_MO_111 rfl rfl (c_MO_isUnitV (v := 1) v0 ?_)
  refine Ev_if_ne (tgt := 13) (pc := 6) d_MO_antigen_6 rfl (fun _ => ?_) (fun q => absurd q (by decide))
  refine Ev_iconst (v := 0) (pc := 13) d_MO_antigen_13 (by decide) ?_
  refine Ev_iload_n (pc := 14) d_MO_antigen_14 rfl ?_
  refine Ev_iconst (v := 0) (pc := 15) d_MO_antigen_15 (by decide) ?_
  refine Ev_bipush (v := 7) (pc := 16) d_MO_antigen_16 (by decide) ?_
  refine Ev_callS (M' := M_MO_in) (as := [vI x2, vI 0, vI 7]) (st := [vI 0, vR 0 6]) (pc := 18) d_MO_antigen_18 rfl rfl rfl s_MO_in lk_MO_77 rfl rfl (c_MO_in  ?_)
  refine Ev_if_eq (tgt := 33) (pc := 21) d_MO_antigen_21 rfl (fun q1 => ?_) (fun q1 => ?_)
  · refine Ev_iconst (v := 1) (pc := 33) d_MO_antigen_33 (by decide) ?_
    refine Ev_goto (tgt := 38) (pc := 34) d_MO_antigen_34 rfl ?_
    rw [f_MO_antigen_1] at k
    have j := c_MO_antigen_1_38 (E := E) (P := P) (h := h) (x1 := x1) (x2 := x2) (x3 := x3) v0 hR n2 n3 k
    rw [m_MO_antigen_1_38, if_pos q1] at j
    exact j
  · refine Ev_iload_n (pc := 24) d_MO_antigen_24 rfl ?_
    refine Ev_iconst (v := 0) (pc := 25) d_MO_antigen_25 (by decide) ?_
    refine Ev_iconst (v := 2) (pc := 26) d_MO_antigen_26 (by decide) ?_
    refine Ev_callS (M' := M_MO_in) (as := [vI x3, vI 0, vI 2]) (st := [vI 0, vR 0 6]) (pc := 27) d_MO_antigen_27 rfl rfl rfl s_MO_in lk_MO_77 rfl rfl (c_MO_in  ?_)
    refine Ev_if_ne (tgt := 37) (pc := 30) d_MO_antigen_30 rfl (fun q7 => ?_) (fun q7 => ?_)
    · refine Ev_iconst (v := 0) (pc := 37) d_MO_antigen_37 (by decide) ?_
      rw [f_MO_antigen_1] at k
      have j := c_MO_antigen_1_38 (E := E) (P := P) (h := h) (x1 := x1) (x2 := x2) (x3 := x3) v0 hR n2 n3 k
      rw [m_MO_antigen_1_38, if_neg q1, if_neg q7] at j
      exact j
    · refine Ev_iconst (v := 1) (pc := 33) d_MO_antigen_33 (by decide) ?_
      refine Ev_goto (tgt := 38) (pc := 34) d_MO_antigen_34 rfl ?_
      rw [f_MO_antigen_1] at k
      have j := c_MO_antigen_1_38 (E := E) (P := P) (h := h) (x1 := x1) (x2 := x2) (x3 := x3) v0 hR n2 n3 k
      rw [m_MO_antigen_1_38, if_neg q1, if_pos q7] at j
      exact j
def m_MO_antigen_0_38 (x1 : Int32) (x2 : Int32) (x3 : Int32) : Int32 := (if (f_MO_in x2 0 7) = 0 then 1 else (if (f_MO_in x3 0 2) = 0 then 1 else 0))
def f_MO_antigen_0_38 (h : ev_H) (x1 : Int32) (x2 : Int32) (x3 : Int32) : ev_H := (sI h 0 6 0 1)
theorem c_MO_antigen_0_38 {E : ev_E} {P : Option ev_V ⊕ Nat → ev_H → Prop} {h : ev_H} {x1 : Int32} {x2 : Int32} {x3 : Int32} (v0 : f_MO_isUnit h x1 = 0) (k : P (.inl none) (f_MO_antigen_0_38 h x1 x2 x3)) : Ev E M_MO_antigen 38 [(0, vR 0 6), (1, vI x1), (2, vI x2), (3, vI x3)] [vI (m_MO_antigen_0_38 x1 x2 x3), vI 1, vR 0 6] h P := by
  refine Ev_aload_n (pc := 38) d_MO_antigen_38 rfl ?_
  refine Ev_iload_n (pc := 39) d_MO_antigen_39 rfl ?_
  refine Ev_callV (M' := M_MO_isUnit) (as := [vI x1]) (st := [vI (m_MO_antigen_0_38 x1 x2 x3), vI 1, vR 0 6]) (a := 0) (i := 6) (pc := 40) d_MO_antigen_40 rfl rfl rfl rfl rfl rfl rfl v_MO_isUnit lk_MO_111 rfl rfl (c_MO_isUnitV (v := 0) v0 ?_)
  refine Ev_if_eq (tgt := 58) (pc := 43) d_MO_antigen_43 rfl (fun _ => ?_) (fun q => absurd q (by decide))
  refine Ev_iconst (v := 0) (pc := 58) d_MO_antigen_58 (by decide) ?_
  refine Ev_iconst (v := 0) (pc := 59) d_MO_antigen_59 (by decide) ?_
  refine Ev_callV (M' := M_MO_refused) (as := [vI 1, vI (m_MO_antigen_0_38 x1 x2 x3), vI 0, vI 0]) (st := []) (a := 0) (i := 6) (pc := 60) d_MO_antigen_60 rfl rfl rfl rfl rfl rfl rfl v_MO_refused lk_MO_85 rfl rfl (c_MO_refused1  ?_)
  refine Ev_if_eq (tgt := 67) (pc := 63) d_MO_antigen_63 rfl (fun q => absurd q (by decide)) (fun _ => ?_)
  refine Ev_return (pc := 66) d_MO_antigen_66 rfl ?_
  rw [f_MO_antigen_0_38] at k
  exact k
def f_MO_antigen_0 (h : ev_H) (x1 : Int32) (x2 : Int32) (x3 : Int32) : ev_H := f_MO_antigen_0_38 h x1 x2 x3
theorem c_MO_antigen_0 {E : ev_E} {P : Option ev_V ⊕ Nat → ev_H → Prop} {h : ev_H} {x1 : Int32} {x2 : Int32} {x3 : Int32} (v0 : f_MO_isUnit h x1 = 0) (k : P (.inl none) (f_MO_antigen_0 h x1 x2 x3)) : Ev E M_MO_antigen 0 [(0, vR 0 6), (1, vI x1), (2, vI x2), (3, vI x3)] [] h P := by
  refine Ev_aload_n (pc := 0) d_MO_antigen_0 rfl ?_
  refine Ev_aload_n (pc := 1) d_MO_antigen_1 rfl ?_
  refine Ev_iload_n (pc := 2) d_MO_antigen_2 rfl ?_
  refine Ev_callV (M' := M_MO_isUnit) (as := [vI x1]) (st := [vR 0 6]) (a := 0) (i := 6) (pc := 3) d_MO_antigen_3 rfl rfl rfl rfl rfl rfl rfl v_MO_isUnit lk_MO_111 rfl rfl (c_MO_isUnitV (v := 0) v0 ?_)
  refine Ev_if_ne (tgt := 13) (pc := 6) d_MO_antigen_6 rfl (fun q => absurd q (by decide)) (fun _ => ?_)
  refine Ev_iconst (v := 1) (pc := 9) d_MO_antigen_9 (by decide) ?_
  refine Ev_goto (tgt := 14) (pc := 10) d_MO_antigen_10 rfl ?_
  refine Ev_iload_n (pc := 14) d_MO_antigen_14 rfl ?_
  refine Ev_iconst (v := 0) (pc := 15) d_MO_antigen_15 (by decide) ?_
  refine Ev_bipush (v := 7) (pc := 16) d_MO_antigen_16 (by decide) ?_
  refine Ev_callS (M' := M_MO_in) (as := [vI x2, vI 0, vI 7]) (st := [vI 1, vR 0 6]) (pc := 18) d_MO_antigen_18 rfl rfl rfl s_MO_in lk_MO_77 rfl rfl (c_MO_in  ?_)
  refine Ev_if_eq (tgt := 33) (pc := 21) d_MO_antigen_21 rfl (fun q1 => ?_) (fun q1 => ?_)
  · refine Ev_iconst (v := 1) (pc := 33) d_MO_antigen_33 (by decide) ?_
    refine Ev_goto (tgt := 38) (pc := 34) d_MO_antigen_34 rfl ?_
    rw [f_MO_antigen_0] at k
    have j := c_MO_antigen_0_38 (E := E) (P := P) (h := h) (x1 := x1) (x2 := x2) (x3 := x3) v0 k
    rw [m_MO_antigen_0_38, if_pos q1] at j
    exact j
  · refine Ev_iload_n (pc := 24) d_MO_antigen_24 rfl ?_
    refine Ev_iconst (v := 0) (pc := 25) d_MO_antigen_25 (by decide) ?_
    refine Ev_iconst (v := 2) (pc := 26) d_MO_antigen_26 (by decide) ?_
    refine Ev_callS (M' := M_MO_in) (as := [vI x3, vI 0, vI 2]) (st := [vI 1, vR 0 6]) (pc := 27) d_MO_antigen_27 rfl rfl rfl s_MO_in lk_MO_77 rfl rfl (c_MO_in  ?_)
    refine Ev_if_ne (tgt := 37) (pc := 30) d_MO_antigen_30 rfl (fun q3 => ?_) (fun q3 => ?_)
    · refine Ev_iconst (v := 0) (pc := 37) d_MO_antigen_37 (by decide) ?_
      rw [f_MO_antigen_0] at k
      have j := c_MO_antigen_0_38 (E := E) (P := P) (h := h) (x1 := x1) (x2 := x2) (x3 := x3) v0 k
      rw [m_MO_antigen_0_38, if_neg q1, if_neg q3] at j
      exact j
    · refine Ev_iconst (v := 1) (pc := 33) d_MO_antigen_33 (by decide) ?_
      refine Ev_goto (tgt := 38) (pc := 34) d_MO_antigen_34 rfl ?_
      rw [f_MO_antigen_0] at k
      have j := c_MO_antigen_0_38 (E := E) (P := P) (h := h) (x1 := x1) (x2 := x2) (x3 := x3) v0 k
      rw [m_MO_antigen_0_38, if_neg q1, if_pos q3] at j
      exact j
def m_MO_process_1_15 (x1 : Int32) (x2 : Int32) : Int32 := (if x2 = 0 then 3 else 1)
def m_MO_process_1_41 (x1 : Int32) (x2 : Int32) : Int32 := (if (f_MO_in x2 0 3) = 0 then 1 else 0)
def m_MO_process_1_70 (h : ev_H) (x1 : Int32) (x2 : Int32) : Int32 := (if (f_MO_isReady h x1) = 0 then 1 else (if ((gI h 0 6 2) + (m_MO_process_1_15 x1 x2)) ≤ 48 then 0 else 1))
def m_MO_process_1_92 (h : ev_H) (x1 : Int32) (x2 : Int32) : Int32 := (if (f_MO_suits (gI h 0 7 x1.toNatClampNeg) x2) = 0 then 1 else 0)
def vv_MO_process_1_106 (h : ev_H) (x1 : Int32) (x2 : Int32) : Int32 := gI ((f_MO_refused h 0 (m_MO_process_1_41 x1 x2) (m_MO_process_1_70 h x1 x2) (m_MO_process_1_92 h x1 x2)).2) 0 6 2
def m_MO_process_1_187 (h : ev_H) (x1 : Int32) (x2 : Int32) : ev_H := (if x2 = 0 then ((f_MO_add ((f_MO_add ((f_MO_add ((f_MO_refused h 0 (m_MO_process_1_41 x1 x2) (m_MO_process_1_70 h x1 x2) (m_MO_process_1_92 h x1 x2)).2) x1 0 0 (-1)).2) x1 1 0 (-1)).2) x1 2 0 7200).2) else (if x2 = 1 then (if x2 = 2 then ((f_MO_add ((f_MO_refused h 0 (m_MO_process_1_41 x1 x2) (m_MO_process_1_70 h x1 x2) (m_MO_process_1_92 h x1 x2)).2) x1 (gI ((f_MO_refused h 0 (m_MO_process_1_41 x1 x2) (m_MO_process_1_70 h x1 x2) (m_MO_process_1_92 h x1 x2)).2) 0 7 x1.toNatClampNeg) 1 20160).2) else ((f_MO_add ((f_MO_refused h 0 (m_MO_process_1_41 x1 x2) (m_MO_process_1_70 h x1 x2) (m_MO_process_1_92 h x1 x2)).2) x1 (gI ((f_MO_refused h 0 (m_MO_process_1_41 x1 x2) (m_MO_process_1_70 h x1 x2) (m_MO_process_1_92 h x1 x2)).2) 0 7 x1.toNatClampNeg) 1 1440).2)) else (if x2 = 2 then ((f_MO_add ((f_MO_refused h 0 (m_MO_process_1_41 x1 x2) (m_MO_process_1_70 h x1 x2) (m_MO_process_1_92 h x1 x2)).2) x1 (gI ((f_MO_refused h 0 (m_MO_process_1_41 x1 x2) (m_MO_process_1_70 h x1 x2) (m_MO_process_1_92 h x1 x2)).2) 0 7 x1.toNatClampNeg) 2 20160).2) else ((f_MO_add ((f_MO_refused h 0 (m_MO_process_1_41 x1 x2) (m_MO_process_1_70 h x1 x2) (m_MO_process_1_92 h x1 x2)).2) x1 (gI ((f_MO_refused h 0 (m_MO_process_1_41 x1 x2) (m_MO_process_1_70 h x1 x2) (m_MO_process_1_92 h x1 x2)).2) 0 7 x1.toNatClampNeg) 4 1440).2))))
def f_MO_process_1_187 (h : ev_H) (x1 : Int32) (x2 : Int32) : Int32 × ev_H := ((vv_MO_process_1_106 h x1 x2), (sI (m_MO_process_1_187 h x1 x2) 0 15 x1.toNatClampNeg 5))
theorem c_MO_process_1_187 {E : ev_E} {P : Option ev_V ⊕ Nat → ev_H → Prop} {h : ev_H} {x1 : Int32} {x2 : Int32} (hR : rfs h) (n2 : ¬ x1 < 0) (n3 : x1.toNatClampNeg < 48) (k : P (.inl (some (vI (f_MO_process_1_187 h x1 x2).1))) (f_MO_process_1_187 h x1 x2).2) : Ev E M_MO_process 187 [(0, vR 0 6), (1, vI x1), (2, vI x2), (3, vI 1), (4, vI (m_MO_process_1_15 x1 x2)), (5, vI (vv_MO_process_1_106 h x1 x2))] [] (m_MO_process_1_187 h x1 x2) P := by
  refine Ev_aload_n (pc := 187) d_MO_process_187 rfl ?_
  refine Ev_getR (pc := 188) d_MO_process_188 rfl rfl rfl fl_MO_34 (rf_MO_11 (by unfold m_MO_process_1_187; (repeat' split) <;> exact hR)) ?_
  refine Ev_iload_n (pc := 191) d_MO_process_191 rfl ?_
  refine Ev_iconst (v := 5) (pc := 192) d_MO_process_192 (by decide) ?_
  refine Ev_iast (pc := 193) d_MO_process_193 rfl rfl n2 n3 ?_
  refine Ev_iload (pc := 194) d_MO_process_194 rfl ?_
  refine Ev_ireturn (pc := 196) d_MO_process_196 rfl rfl ?_
  rw [f_MO_process_1_187] at k
  exact k
def f_MO_process_1_92 (h : ev_H) (x1 : Int32) (x2 : Int32) : Int32 × ev_H := ((if ((f_MO_refused h 0 (m_MO_process_1_41 x1 x2) (m_MO_process_1_70 h x1 x2) (m_MO_process_1_92 h x1 x2)).1) = 0 then (f_MO_process_1_187 h x1 x2).1 else 0), (if ((f_MO_refused h 0 (m_MO_process_1_41 x1 x2) (m_MO_process_1_70 h x1 x2) (m_MO_process_1_92 h x1 x2)).1) = 0 then (f_MO_process_1_187 h x1 x2).2 else ((f_MO_refused h 0 (m_MO_process_1_41 x1 x2) (m_MO_process_1_70 h x1 x2) (m_MO_process_1_92 h x1 x2)).2)))
theorem c_MO_process_1_92 {E : ev_E} {P : Option ev_V ⊕ Nat → ev_H → Prop} {h : ev_H} {x1 : Int32} {x2 : Int32} (hR : rfs h) (n1 : ¬ x1 < 0) (n2 : x1.toNatClampNeg < 48) (n3 : ¬ (gI h 0 6 2) < 0) (n4 : (((f_MO_refused h 0 (m_MO_process_1_41 x1 x2) (m_MO_process_1_70 h x1 x2) (m_MO_process_1_92 h x1 x2)).1) = 0) → (¬ (x2 = 0)) → (¬ (x2 = 1)) → (¬ (x2 = 2)) → (gI h 0 6 2).toNatClampNeg < 48) (n5 : (((f_MO_refused h 0 (m_MO_process_1_41 x1 x2) (m_MO_process_1_70 h x1 x2) (m_MO_process_1_92 h x1 x2)).1) = 0) → (¬ (x2 = 0)) → (¬ (x2 = 1)) → (x2 = 2) → (gI h 0 6 2).toNatClampNeg < 48) (n6 : (((f_MO_refused h 0 (m_MO_process_1_41 x1 x2) (m_MO_process_1_70 h x1 x2) (m_MO_process_1_92 h x1 x2)).1) = 0) → (¬ (x2 = 0)) → (x2 = 1) → (¬ (x2 = 2)) → (gI h 0 6 2).toNatClampNeg < 48) (n7 : (((f_MO_refused h 0 (m_MO_process_1_41 x1 x2) (m_MO_process_1_70 h x1 x2) (m_MO_process_1_92 h x1 x2)).1) = 0) → (¬ (x2 = 0)) → (x2 = 1) → (x2 = 2) → (gI h 0 6 2).toNatClampNeg < 48) (n8 : (((f_MO_refused h 0 (m_MO_process_1_41 x1 x2) (m_MO_process_1_70 h x1 x2) (m_MO_process_1_92 h x1 x2)).1) = 0) → (x2 = 0) → (gI h 0 6 2).toNatClampNeg < 48) (n9 : ¬ (gI ((f_MO_add ((f_MO_refused h 0 (m_MO_process_1_41 x1 x2) (m_MO_process_1_70 h x1 x2) (m_MO_process_1_92 h x1 x2)).2) x1 0 0 (-1)).2) 0 6 2) < 0) (n10 : (((f_MO_refused h 0 (m_MO_process_1_41 x1 x2) (m_MO_process_1_70 h x1 x2) (m_MO_process_1_92 h x1 x2)).1) = 0) → (x2 = 0) → (gI ((f_MO_add ((f_MO_refused h 0 (m_MO_process_1_41 x1 x2) (m_MO_process_1_70 h x1 x2) (m_MO_process_1_92 h x1 x2)).2) x1 0 0 (-1)).2) 0 6 2).toNatClampNeg < 48) (n11 : ¬ (gI ((f_MO_add ((f_MO_add ((f_MO_refused h 0 (m_MO_process_1_41 x1 x2) (m_MO_process_1_70 h x1 x2) (m_MO_process_1_92 h x1 x2)).2) x1 0 0 (-1)).2) x1 1 0 (-1)).2) 0 6 2) < 0) (n12 : (((f_MO_refused h 0 (m_MO_process_1_41 x1 x2) (m_MO_process_1_70 h x1 x2) (m_MO_process_1_92 h x1 x2)).1) = 0) → (x2 = 0) → (gI ((f_MO_add ((f_MO_add ((f_MO_refused h 0 (m_MO_process_1_41 x1 x2) (m_MO_process_1_70 h x1 x2) (m_MO_process_1_92 h x1 x2)).2) x1 0 0 (-1)).2) x1 1 0 (-1)).2) 0 6 2).toNatClampNeg < 48) (k : P (.inl (some (vI (f_MO_process_1_92 h x1 x2).1))) (f_MO_process_1_92 h x1 x2).2) : Ev E M_MO_process 92 [(0, vR 0 6), (1, vI x1), (2, vI x2), (3, vI 1), (4, vI (m_MO_process_1_15 x1 x2))] [vI (m_MO_process_1_92 h x1 x2), vI (m_MO_process_1_70 h x1 x2), vI (m_MO_process_1_41 x1 x2), vI 0, vR 0 6] h P := by
  refine Ev_callV (M' := M_MO_refused) (as := [vI 0, vI (m_MO_process_1_41 x1 x2), vI (m_MO_process_1_70 h x1 x2), vI (m_MO_process_1_92 h x1 x2)]) (st := []) (a := 0) (i := 6) (pc := 92) d_MO_process_92 rfl rfl rfl rfl rfl rfl rfl v_MO_refused lk_MO_85 rfl rfl (c_MO_refused  ?_)
  refine Ev_if_eq (tgt := 100) (pc := 95) d_MO_process_95 rfl (fun q6 => ?_) (fun q6 => ?_)
  · refine Ev_aload_n (pc := 100) d_MO_process_100 rfl ?_
    refine Ev_getI (pc := 101) d_MO_process_101 rfl rfl rfl fl_MO_74 ?_
    refine Ev_istore (pc := 104) d_MO_process_104 rfl ?_
    show Ev E M_MO_process 106 [(0, vR 0 6), (1, vI x1), (2, vI x2), (3, vI 1), (4, vI (m_MO_process_1_15 x1 x2)), (5, vI (vv_MO_process_1_106 h x1 x2))] [] ((f_MO_refused h 0 (m_MO_process_1_41 x1 x2) (m_MO_process_1_70 h x1 x2) (m_MO_process_1_92 h x1 x2)).2) P
    refine Ev_iload_n (pc := 106) d_MO_process_106 rfl ?_
    refine Ev_if_ne (tgt := 142) (pc := 107) d_MO_process_107 rfl (fun q7 => ?_) (fun q7 => ?_)
    · refine Ev_aload_n (pc := 142) d_MO_process_142 rfl ?_
      refine Ev_iload_n (pc := 143) d_MO_process_143 rfl ?_
      refine Ev_aload_n (pc := 144) d_MO_process_144 rfl ?_
      refine Ev_getR (pc := 145) d_MO_process_145 rfl rfl rfl fl_MO_7 (rf_MO_3 hR) ?_
      refine Ev_iload_n (pc := 148) d_MO_process_148 rfl ?_
      refine Ev_iald (pc := 149) d_MO_process_149 rfl rfl n1 n2 ?_
      refine Ev_iload_n (pc := 150) d_MO_process_150 rfl ?_
      refine Ev_iconst (v := 1) (pc := 151) d_MO_process_151 (by decide) ?_
      refine Ev_icmp_ne (tgt := 159) (pc := 152) d_MO_process_152 rfl (fun q11 => ?_) (fun q11 => ?_)
      · refine Ev_iload_n (pc := 159) d_MO_process_159 rfl ?_
        refine Ev_iconst (v := 2) (pc := 160) d_MO_process_160 (by decide) ?_
        refine Ev_icmp_ne (tgt := 168) (pc := 161) d_MO_process_161 rfl (fun q12 => ?_) (fun q12 => ?_)
        · refine Ev_iconst (v := 4) (pc := 168) d_MO_process_168 (by decide) ?_
          refine Ev_iload_n (pc := 169) d_MO_process_169 rfl ?_
          refine Ev_iconst (v := 2) (pc := 170) d_MO_process_170 (by decide) ?_
          refine Ev_icmp_ne (tgt := 180) (pc := 171) d_MO_process_171 rfl (fun _ => ?_) (fun q => absurd q q12)
          refine Ev_sipush (v := 1440) (pc := 180) d_MO_process_180 (by decide) ?_
          refine Ev_callV (M' := M_MO_add) (as := [vI x1, vI (gI ((f_MO_refused h 0 (m_MO_process_1_41 x1 x2) (m_MO_process_1_70 h x1 x2) (m_MO_process_1_92 h x1 x2)).2) 0 7 x1.toNatClampNeg), vI 4, vI 1440]) (st := []) (a := 0) (i := 6) (pc := 183) d_MO_process_183 rfl rfl rfl rfl rfl rfl rfl v_MO_add lk_MO_107 rfl rfl (c_MO_add hR n3 (n4 q6 q7 q11 q12) n1 n2 ?_)
          refine Ev_pop (pc := 186) d_MO_process_186 rfl ?_
          simp only [f_MO_process_1_92, if_pos q6] at k
          have j := c_MO_process_1_187 (E := E) (P := P) (h := h) (x1 := x1) (x2 := x2) hR n1 n2 k
          rw [m_MO_process_1_187, if_neg q7, if_neg q11, if_neg q12] at j
          exact j
        · refine Ev_iconst (v := 2) (pc := 164) d_MO_process_164 (by decide) ?_
          refine Ev_goto (tgt := 169) (pc := 165) d_MO_process_165 rfl ?_
          refine Ev_iload_n (pc := 169) d_MO_process_169 rfl ?_
          refine Ev_iconst (v := 2) (pc := 170) d_MO_process_170 (by decide) ?_
          refine Ev_icmp_ne (tgt := 180) (pc := 171) d_MO_process_171 rfl (fun q => absurd q12 q) (fun _ => ?_)
          refine Ev_sipush (v := 20160) (pc := 174) d_MO_process_174 (by decide) ?_
          refine Ev_goto (tgt := 183) (pc := 177) d_MO_process_177 rfl ?_
          refine Ev_callV (M' := M_MO_add) (as := [vI x1, vI (gI ((f_MO_refused h 0 (m_MO_process_1_41 x1 x2) (m_MO_process_1_70 h x1 x2) (m_MO_process_1_92 h x1 x2)).2) 0 7 x1.toNatClampNeg), vI 2, vI 20160]) (st := []) (a := 0) (i := 6) (pc := 183) d_MO_process_183 rfl rfl rfl rfl rfl rfl rfl v_MO_add lk_MO_107 rfl rfl (c_MO_add hR n3 (n5 q6 q7 q11 q12) n1 n2 ?_)
          refine Ev_pop (pc := 186) d_MO_process_186 rfl ?_
          simp only [f_MO_process_1_92, if_pos q6] at k
          have j := c_MO_process_1_187 (E := E) (P := P) (h := h) (x1 := x1) (x2 := x2) hR n1 n2 k
          rw [m_MO_process_1_187, if_neg q7, if_neg q11, if_pos q12] at j
          exact j
      · refine Ev_iconst (v := 1) (pc := 155) d_MO_process_155 (by decide) ?_
        refine Ev_goto (tgt := 169) (pc := 156) d_MO_process_156 rfl ?_
        refine Ev_iload_n (pc := 169) d_MO_process_169 rfl ?_
        refine Ev_iconst (v := 2) (pc := 170) d_MO_process_170 (by decide) ?_
        refine Ev_icmp_ne (tgt := 180) (pc := 171) d_MO_process_171 rfl (fun q13 => ?_) (fun q13 => ?_)
        · refine Ev_sipush (v := 1440) (pc := 180) d_MO_process_180 (by decide) ?_
          refine Ev_callV (M' := M_MO_add) (as := [vI x1, vI (gI ((f_MO_refused h 0 (m_MO_process_1_41 x1 x2) (m_MO_process_1_70 h x1 x2) (m_MO_process_1_92 h x1 x2)).2) 0 7 x1.toNatClampNeg), vI 1, vI 1440]) (st := []) (a := 0) (i := 6) (pc := 183) d_MO_process_183 rfl rfl rfl rfl rfl rfl rfl v_MO_add lk_MO_107 rfl rfl (c_MO_add hR n3 (n6 q6 q7 q11 q13) n1 n2 ?_)
          refine Ev_pop (pc := 186) d_MO_process_186 rfl ?_
          simp only [f_MO_process_1_92, if_pos q6] at k
          have j := c_MO_process_1_187 (E := E) (P := P) (h := h) (x1 := x1) (x2 := x2) hR n1 n2 k
          rw [m_MO_process_1_187, if_neg q7, if_pos q11, if_neg q13] at j
          exact j
        · refine Ev_sipush (v := 20160) (pc := 174) d_MO_process_174 (by decide) ?_
          refine Ev_goto (tgt := 183) (pc := 177) d_MO_process_177 rfl ?_
          refine Ev_callV (M' := M_MO_add) (as := [vI x1, vI (gI ((f_MO_refused h 0 (m_MO_process_1_41 x1 x2) (m_MO_process_1_70 h x1 x2) (m_MO_process_1_92 h x1 x2)).2) 0 7 x1.toNatClampNeg), vI 1, vI 20160]) (st := []) (a := 0) (i := 6) (pc := 183) d_MO_process_183 rfl rfl rfl rfl rfl rfl rfl v_MO_add lk_MO_107 rfl rfl (c_MO_add hR n3 (n7 q6 q7 q11 q13) n1 n2 ?_)
          refine Ev_pop (pc := 186) d_MO_process_186 rfl ?_
          simp only [f_MO_process_1_92, if_pos q6] at k
          have j := c_MO_process_1_187 (E := E) (P := P) (h := h) (x1 := x1) (x2 := x2) hR n1 n2 k
          rw [m_MO_process_1_187, if_neg q7, if_pos q11, if_pos q13] at j
          exact j
    · refine Ev_aload_n (pc := 110) d_MO_process_110 rfl ?_
      refine Ev_iload_n (pc := 111) d_MO_process_111 rfl ?_
      refine Ev_iconst (v := 0) (pc := 112) d_MO_process_112 (by decide) ?_
      refine Ev_iconst (v := 0) (pc := 113) d_MO_process_113 (by decide) ?_
      refine Ev_iconst (v := -1) (pc := 114) d_MO_process_114 (by decide) ?_
      refine Ev_callV (M' := M_MO_add) (as := [vI x1, vI 0, vI 0, vI (-1)]) (st := []) (a := 0) (i := 6) (pc := 115) d_MO_process_115 rfl rfl rfl rfl rfl rfl rfl v_MO_add lk_MO_107 rfl rfl (c_MO_add hR n3 (n8 q6 q7) n1 n2 ?_)
      refine Ev_pop (pc := 118) d_MO_process_118 rfl ?_
      refine Ev_aload_n (pc := 119) d_MO_process_119 rfl ?_
      refine Ev_iload_n (pc := 120) d_MO_process_120 rfl ?_
      refine Ev_iconst (v := 1) (pc := 121) d_MO_process_121 (by decide) ?_
      refine Ev_iconst (v := 0) (pc := 122) d_MO_process_122 (by decide) ?_
      refine Ev_iconst (v := -1) (pc := 123) d_MO_process_123 (by decide) ?_
      refine Ev_callV (M' := M_MO_add) (as := [vI x1, vI 1, vI 0, vI (-1)]) (st := []) (a := 0) (i := 6) (pc := 124) d_MO_process_124 rfl rfl rfl rfl rfl rfl rfl v_MO_add lk_MO_107 rfl rfl (c_MO_add hR n9 (n10 q6 q7) n1 n2 ?_)
      refine Ev_pop (pc := 127) d_MO_process_127 rfl ?_
      refine Ev_aload_n (pc := 128) d_MO_process_128 rfl ?_
      refine Ev_iload_n (pc := 129) d_MO_process_129 rfl ?_
      refine Ev_iconst (v := 2) (pc := 130) d_MO_process_130 (by decide) ?_
      refine Ev_iconst (v := 0) (pc := 131) d_MO_process_131 (by decide) ?_
      refine Ev_sipush (v := 7200) (pc := 132) d_MO_process_132 (by decide) ?_
      refine Ev_callV (M' := M_MO_add) (as := [vI x1, vI 2, vI 0, vI 7200]) (st := []) (a := 0) (i := 6) (pc := 135) d_MO_process_135 rfl rfl rfl rfl rfl rfl rfl v_MO_add lk_MO_107 rfl rfl (c_MO_add hR n11 (n12 q6 q7) n1 n2 ?_)
      refine Ev_pop (pc := 138) d_MO_process_138 rfl ?_
      refine Ev_goto (tgt := 187) (pc := 139) d_MO_process_139 rfl ?_
      simp only [f_MO_process_1_92, if_pos q6] at k
      have j := c_MO_process_1_187 (E := E) (P := P) (h := h) (x1 := x1) (x2 := x2) hR n1 n2 k
      rw [m_MO_process_1_187, if_pos q7] at j
      exact j
  · refine Ev_iconst (v := 0) (pc := 98) d_MO_process_98 (by decide) ?_
    refine Ev_ireturn (pc := 99) d_MO_process_99 rfl rfl ?_
    simp only [f_MO_process_1_92, if_neg q6] at k
    exact k
def f_MO_process_1_70 (h : ev_H) (x1 : Int32) (x2 : Int32) : Int32 × ev_H := f_MO_process_1_92 h x1 x2
theorem c_MO_process_1_70 {E : ev_E} {P : Option ev_V ⊕ Nat → ev_H → Prop} {h : ev_H} {x1 : Int32} {x2 : Int32} (hR : rfs h) (n1 : ¬ x1 < 0) (n2 : x1.toNatClampNeg < 48) (n3 : ¬ (gI h 0 6 2) < 0) (n4 : (((f_MO_refused h 0 (m_MO_process_1_41 x1 x2) (m_MO_process_1_70 h x1 x2) (m_MO_process_1_92 h x1 x2)).1) = 0) → (¬ (x2 = 0)) → (¬ (x2 = 1)) → (¬ (x2 = 2)) → (gI h 0 6 2).toNatClampNeg < 48) (n5 : (((f_MO_refused h 0 (m_MO_process_1_41 x1 x2) (m_MO_process_1_70 h x1 x2) (m_MO_process_1_92 h x1 x2)).1) = 0) → (¬ (x2 = 0)) → (¬ (x2 = 1)) → (x2 = 2) → (gI h 0 6 2).toNatClampNeg < 48) (n6 : (((f_MO_refused h 0 (m_MO_process_1_41 x1 x2) (m_MO_process_1_70 h x1 x2) (m_MO_process_1_92 h x1 x2)).1) = 0) → (¬ (x2 = 0)) → (x2 = 1) → (¬ (x2 = 2)) → (gI h 0 6 2).toNatClampNeg < 48) (n7 : (((f_MO_refused h 0 (m_MO_process_1_41 x1 x2) (m_MO_process_1_70 h x1 x2) (m_MO_process_1_92 h x1 x2)).1) = 0) → (¬ (x2 = 0)) → (x2 = 1) → (x2 = 2) → (gI h 0 6 2).toNatClampNeg < 48) (n8 : (((f_MO_refused h 0 (m_MO_process_1_41 x1 x2) (m_MO_process_1_70 h x1 x2) (m_MO_process_1_92 h x1 x2)).1) = 0) → (x2 = 0) → (gI h 0 6 2).toNatClampNeg < 48) (n9 : ¬ (gI ((f_MO_add ((f_MO_refused h 0 (m_MO_process_1_41 x1 x2) (m_MO_process_1_70 h x1 x2) (m_MO_process_1_92 h x1 x2)).2) x1 0 0 (-1)).2) 0 6 2) < 0) (n10 : (((f_MO_refused h 0 (m_MO_process_1_41 x1 x2) (m_MO_process_1_70 h x1 x2) (m_MO_process_1_92 h x1 x2)).1) = 0) → (x2 = 0) → (gI ((f_MO_add ((f_MO_refused h 0 (m_MO_process_1_41 x1 x2) (m_MO_process_1_70 h x1 x2) (m_MO_process_1_92 h x1 x2)).2) x1 0 0 (-1)).2) 0 6 2).toNatClampNeg < 48) (n11 : ¬ (gI ((f_MO_add ((f_MO_add ((f_MO_refused h 0 (m_MO_process_1_41 x1 x2) (m_MO_process_1_70 h x1 x2) (m_MO_process_1_92 h x1 x2)).2) x1 0 0 (-1)).2) x1 1 0 (-1)).2) 0 6 2) < 0) (n12 : (((f_MO_refused h 0 (m_MO_process_1_41 x1 x2) (m_MO_process_1_70 h x1 x2) (m_MO_process_1_92 h x1 x2)).1) = 0) → (x2 = 0) → (gI ((f_MO_add ((f_MO_add ((f_MO_refused h 0 (m_MO_process_1_41 x1 x2) (m_MO_process_1_70 h x1 x2) (m_MO_process_1_92 h x1 x2)).2) x1 0 0 (-1)).2) x1 1 0 (-1)).2) 0 6 2).toNatClampNeg < 48) (k : P (.inl (some (vI (f_MO_process_1_70 h x1 x2).1))) (f_MO_process_1_70 h x1 x2).2) : Ev E M_MO_process 70 [(0, vR 0 6), (1, vI x1), (2, vI x2), (3, vI 1), (4, vI (m_MO_process_1_15 x1 x2))] [vI (m_MO_process_1_70 h x1 x2), vI (m_MO_process_1_41 x1 x2), vI 0, vR 0 6] h P := by
  refine Ev_iload_n (pc := 70) d_MO_process_70 rfl ?_
  refine Ev_if_eq (tgt := 91) (pc := 71) d_MO_process_71 rfl (fun q => absurd q (by decide)) (fun _ => ?_)
  refine Ev_aload_n (pc := 74) d_MO_process_74 rfl ?_
  refine Ev_getR (pc := 75) d_MO_process_75 rfl rfl rfl fl_MO_7 (rf_MO_3 hR) ?_
  refine Ev_iload_n (pc := 78) d_MO_process_78 rfl ?_
  refine Ev_iald (pc := 79) d_MO_process_79 rfl rfl n1 n2 ?_
  refine Ev_iload_n (pc := 80) d_MO_process_80 rfl ?_
  refine Ev_callS (M' := M_MO_suits) (as := [vI (gI h 0 7 x1.toNatClampNeg), vI x2]) (st := [vI (m_MO_process_1_70 h x1 x2), vI (m_MO_process_1_41 x1 x2), vI 0, vR 0 6]) (pc := 81) d_MO_process_81 rfl rfl rfl s_MO_suits lk_MO_117 rfl rfl (c_MO_suits  ?_)
  refine Ev_if_ne (tgt := 91) (pc := 84) d_MO_process_84 rfl (fun q5 => ?_) (fun q5 => ?_)
  · refine Ev_iconst (v := 0) (pc := 91) d_MO_process_91 (by decide) ?_
    rw [f_MO_process_1_70] at k
    have j := c_MO_process_1_92 (E := E) (P := P) (h := h) (x1 := x1) (x2 := x2) hR n1 n2 n3 n4 n5 n6 n7 n8 n9 n10 n11 n12 k
    rw [m_MO_process_1_92, if_neg q5] at j
    exact j
  · refine Ev_iconst (v := 1) (pc := 87) d_MO_process_87 (by decide) ?_
    refine Ev_goto (tgt := 92) (pc := 88) d_MO_process_88 rfl ?_
    rw [f_MO_process_1_70] at k
    have j := c_MO_process_1_92 (E := E) (P := P) (h := h) (x1 := x1) (x2 := x2) hR n1 n2 n3 n4 n5 n6 n7 n8 n9 n10 n11 n12 k
    rw [m_MO_process_1_92, if_pos q5] at j
    exact j
def f_MO_process_1_41 (h : ev_H) (x1 : Int32) (x2 : Int32) : Int32 × ev_H := f_MO_process_1_70 h x1 x2
theorem c_MO_process_1_41 {E : ev_E} {P : Option ev_V ⊕ Nat → ev_H → Prop} {h : ev_H} {x1 : Int32} {x2 : Int32} (hR : rfs h) (n1 : ¬ x1 < 0) (n2 : x1.toNatClampNeg < 48) (n3 : ¬ (gI h 0 6 2) < 0) (n4 : (((f_MO_refused h 0 (m_MO_process_1_41 x1 x2) (m_MO_process_1_70 h x1 x2) (m_MO_process_1_92 h x1 x2)).1) = 0) → (¬ (x2 = 0)) → (¬ (x2 = 1)) → (¬ (x2 = 2)) → (gI h 0 6 2).toNatClampNeg < 48) (n5 : (((f_MO_refused h 0 (m_MO_process_1_41 x1 x2) (m_MO_process_1_70 h x1 x2) (m_MO_process_1_92 h x1 x2)).1) = 0) → (¬ (x2 = 0)) → (¬ (x2 = 1)) → (x2 = 2) → (gI h 0 6 2).toNatClampNeg < 48) (n6 : (((f_MO_refused h 0 (m_MO_process_1_41 x1 x2) (m_MO_process_1_70 h x1 x2) (m_MO_process_1_92 h x1 x2)).1) = 0) → (¬ (x2 = 0)) → (x2 = 1) → (¬ (x2 = 2)) → (gI h 0 6 2).toNatClampNeg < 48) (n7 : (((f_MO_refused h 0 (m_MO_process_1_41 x1 x2) (m_MO_process_1_70 h x1 x2) (m_MO_process_1_92 h x1 x2)).1) = 0) → (¬ (x2 = 0)) → (x2 = 1) → (x2 = 2) → (gI h 0 6 2).toNatClampNeg < 48) (n8 : (((f_MO_refused h 0 (m_MO_process_1_41 x1 x2) (m_MO_process_1_70 h x1 x2) (m_MO_process_1_92 h x1 x2)).1) = 0) → (x2 = 0) → (gI h 0 6 2).toNatClampNeg < 48) (n9 : ¬ (gI ((f_MO_add ((f_MO_refused h 0 (m_MO_process_1_41 x1 x2) (m_MO_process_1_70 h x1 x2) (m_MO_process_1_92 h x1 x2)).2) x1 0 0 (-1)).2) 0 6 2) < 0) (n10 : (((f_MO_refused h 0 (m_MO_process_1_41 x1 x2) (m_MO_process_1_70 h x1 x2) (m_MO_process_1_92 h x1 x2)).1) = 0) → (x2 = 0) → (gI ((f_MO_add ((f_MO_refused h 0 (m_MO_process_1_41 x1 x2) (m_MO_process_1_70 h x1 x2) (m_MO_process_1_92 h x1 x2)).2) x1 0 0 (-1)).2) 0 6 2).toNatClampNeg < 48) (n11 : ¬ (gI ((f_MO_add ((f_MO_add ((f_MO_refused h 0 (m_MO_process_1_41 x1 x2) (m_MO_process_1_70 h x1 x2) (m_MO_process_1_92 h x1 x2)).2) x1 0 0 (-1)).2) x1 1 0 (-1)).2) 0 6 2) < 0) (n12 : (((f_MO_refused h 0 (m_MO_process_1_41 x1 x2) (m_MO_process_1_70 h x1 x2) (m_MO_process_1_92 h x1 x2)).1) = 0) → (x2 = 0) → (gI ((f_MO_add ((f_MO_add ((f_MO_refused h 0 (m_MO_process_1_41 x1 x2) (m_MO_process_1_70 h x1 x2) (m_MO_process_1_92 h x1 x2)).2) x1 0 0 (-1)).2) x1 1 0 (-1)).2) 0 6 2).toNatClampNeg < 48) (k : P (.inl (some (vI (f_MO_process_1_41 h x1 x2).1))) (f_MO_process_1_41 h x1 x2).2) : Ev E M_MO_process 41 [(0, vR 0 6), (1, vI x1), (2, vI x2), (3, vI 1), (4, vI (m_MO_process_1_15 x1 x2))] [vI (m_MO_process_1_41 x1 x2), vI 0, vR 0 6] h P := by
  refine Ev_iload_n (pc := 41) d_MO_process_41 rfl ?_
  refine Ev_if_eq (tgt := 69) (pc := 42) d_MO_process_42 rfl (fun q => absurd q (by decide)) (fun _ => ?_)
  refine Ev_aload_n (pc := 45) d_MO_process_45 rfl ?_
  refine Ev_iload_n (pc := 46) d_MO_process_46 rfl ?_
  refine Ev_callV (M' := M_MO_isReady) (as := [vI x1]) (st := [vI (m_MO_process_1_41 x1 x2), vI 0, vR 0 6]) (a := 0) (i := 6) (pc := 47) d_MO_process_47 rfl rfl rfl rfl rfl rfl rfl v_MO_isReady lk_MO_114 rfl rfl (c_MO_isReady hR n1 n2 ?_)
  refine Ev_if_eq (tgt := 65) (pc := 50) d_MO_process_50 rfl (fun q3 => ?_) (fun q3 => ?_)
  · refine Ev_iconst (v := 1) (pc := 65) d_MO_process_65 (by decide) ?_
    refine Ev_goto (tgt := 70) (pc := 66) d_MO_process_66 rfl ?_
    rw [f_MO_process_1_41] at k
    have j := c_MO_process_1_70 (E := E) (P := P) (h := h) (x1 := x1) (x2 := x2) hR n1 n2 n3 n4 n5 n6 n7 n8 n9 n10 n11 n12 k
    rw [m_MO_process_1_70, if_pos q3] at j
    exact j
  · refine Ev_aload_n (pc := 53) d_MO_process_53 rfl ?_
    refine Ev_getI (pc := 54) d_MO_process_54 rfl rfl rfl fl_MO_74 ?_
    refine Ev_iload (pc := 57) d_MO_process_57 rfl ?_
    refine Ev_iadd (pc := 59) d_MO_process_59 ?_
    refine Ev_bipush (v := 48) (pc := 60) d_MO_process_60 (by decide) ?_
    refine Ev_icmp_le (tgt := 69) (pc := 62) d_MO_process_62 rfl (fun q14 => ?_) (fun q14 => ?_)
    · refine Ev_iconst (v := 0) (pc := 69) d_MO_process_69 (by decide) ?_
      rw [f_MO_process_1_41] at k
      have j := c_MO_process_1_70 (E := E) (P := P) (h := h) (x1 := x1) (x2 := x2) hR n1 n2 n3 n4 n5 n6 n7 n8 n9 n10 n11 n12 k
      rw [m_MO_process_1_70, if_neg q3, if_pos q14] at j
      exact j
    · refine Ev_iconst (v := 1) (pc := 65) d_MO_process_65 (by decide) ?_
      refine Ev_goto (tgt := 70) (pc := 66) d_MO_process_66 rfl ?_
      rw [f_MO_process_1_41] at k
      have j := c_MO_process_1_70 (E := E) (P := P) (h := h) (x1 := x1) (x2 := x2) hR n1 n2 n3 n4 n5 n6 n7 n8 n9 n10 n11 n12 k
      rw [m_MO_process_1_70, if_neg q3, if_neg q14] at j
      exact j
def f_MO_process_1_15 (h : ev_H) (x1 : Int32) (x2 : Int32) : Int32 × ev_H := f_MO_process_1_41 h x1 x2
theorem c_MO_process_1_15 {E : ev_E} {P : Option ev_V ⊕ Nat → ev_H → Prop} {h : ev_H} {x1 : Int32} {x2 : Int32} (hR : rfs h) (n1 : ¬ x1 < 0) (n2 : x1.toNatClampNeg < 48) (n3 : ¬ (gI h 0 6 2) < 0) (n4 : (((f_MO_refused h 0 (m_MO_process_1_41 x1 x2) (m_MO_process_1_70 h x1 x2) (m_MO_process_1_92 h x1 x2)).1) = 0) → (¬ (x2 = 0)) → (¬ (x2 = 1)) → (¬ (x2 = 2)) → (gI h 0 6 2).toNatClampNeg < 48) (n5 : (((f_MO_refused h 0 (m_MO_process_1_41 x1 x2) (m_MO_process_1_70 h x1 x2) (m_MO_process_1_92 h x1 x2)).1) = 0) → (¬ (x2 = 0)) → (¬ (x2 = 1)) → (x2 = 2) → (gI h 0 6 2).toNatClampNeg < 48) (n6 : (((f_MO_refused h 0 (m_MO_process_1_41 x1 x2) (m_MO_process_1_70 h x1 x2) (m_MO_process_1_92 h x1 x2)).1) = 0) → (¬ (x2 = 0)) → (x2 = 1) → (¬ (x2 = 2)) → (gI h 0 6 2).toNatClampNeg < 48) (n7 : (((f_MO_refused h 0 (m_MO_process_1_41 x1 x2) (m_MO_process_1_70 h x1 x2) (m_MO_process_1_92 h x1 x2)).1) = 0) → (¬ (x2 = 0)) → (x2 = 1) → (x2 = 2) → (gI h 0 6 2).toNatClampNeg < 48) (n8 : (((f_MO_refused h 0 (m_MO_process_1_41 x1 x2) (m_MO_process_1_70 h x1 x2) (m_MO_process_1_92 h x1 x2)).1) = 0) → (x2 = 0) → (gI h 0 6 2).toNatClampNeg < 48) (n9 : ¬ (gI ((f_MO_add ((f_MO_refused h 0 (m_MO_process_1_41 x1 x2) (m_MO_process_1_70 h x1 x2) (m_MO_process_1_92 h x1 x2)).2) x1 0 0 (-1)).2) 0 6 2) < 0) (n10 : (((f_MO_refused h 0 (m_MO_process_1_41 x1 x2) (m_MO_process_1_70 h x1 x2) (m_MO_process_1_92 h x1 x2)).1) = 0) → (x2 = 0) → (gI ((f_MO_add ((f_MO_refused h 0 (m_MO_process_1_41 x1 x2) (m_MO_process_1_70 h x1 x2) (m_MO_process_1_92 h x1 x2)).2) x1 0 0 (-1)).2) 0 6 2).toNatClampNeg < 48) (n11 : ¬ (gI ((f_MO_add ((f_MO_add ((f_MO_refused h 0 (m_MO_process_1_41 x1 x2) (m_MO_process_1_70 h x1 x2) (m_MO_process_1_92 h x1 x2)).2) x1 0 0 (-1)).2) x1 1 0 (-1)).2) 0 6 2) < 0) (n12 : (((f_MO_refused h 0 (m_MO_process_1_41 x1 x2) (m_MO_process_1_70 h x1 x2) (m_MO_process_1_92 h x1 x2)).1) = 0) → (x2 = 0) → (gI ((f_MO_add ((f_MO_add ((f_MO_refused h 0 (m_MO_process_1_41 x1 x2) (m_MO_process_1_70 h x1 x2) (m_MO_process_1_92 h x1 x2)).2) x1 0 0 (-1)).2) x1 1 0 (-1)).2) 0 6 2).toNatClampNeg < 48) (k : P (.inl (some (vI (f_MO_process_1_15 h x1 x2).1))) (f_MO_process_1_15 h x1 x2).2) : Ev E M_MO_process 15 [(0, vR 0 6), (1, vI x1), (2, vI x2), (3, vI 1)] [vI (m_MO_process_1_15 x1 x2)] h P := by
  refine Ev_istore (pc := 15) d_MO_process_15 rfl ?_
  refine Ev_aload_n (pc := 17) d_MO_process_17 rfl ?_
  refine Ev_iload_n (pc := 18) d_MO_process_18 rfl ?_
  refine Ev_if_ne (tgt := 26) (pc := 19) d_MO_process_19 rfl (fun _ => ?_) (fun q => absurd q (by decide))
  refine Ev_iconst (v := 0) (pc := 26) d_MO_process_26 (by decide) ?_
  refine Ev_iload_n (pc := 27) d_MO_process_27 rfl ?_
  refine Ev_iconst (v := 0) (pc := 28) d_MO_process_28 (by decide) ?_
  refine Ev_iconst (v := 3) (pc := 29) d_MO_process_29 (by decide) ?_
  refine Ev_callS (M' := M_MO_in) (as := [vI x2, vI 0, vI 3]) (st := [vI 0, vR 0 6]) (pc := 30) d_MO_process_30 rfl rfl rfl s_MO_in lk_MO_77 rfl rfl (c_MO_in  ?_)
  refine Ev_if_ne (tgt := 40) (pc := 33) d_MO_process_33 rfl (fun q2 => ?_) (fun q2 => ?_)
  · refine Ev_iconst (v := 0) (pc := 40) d_MO_process_40 (by decide) ?_
    rw [f_MO_process_1_15] at k
    have j := c_MO_process_1_41 (E := E) (P := P) (h := h) (x1 := x1) (x2 := x2) hR n1 n2 n3 n4 n5 n6 n7 n8 n9 n10 n11 n12 k
    rw [m_MO_process_1_41, if_neg q2] at j
    exact j
  · refine Ev_iconst (v := 1) (pc := 36) d_MO_process_36 (by decide) ?_
    refine Ev_goto (tgt := 41) (pc := 37) d_MO_process_37 rfl ?_
    rw [f_MO_process_1_15] at k
    have j := c_MO_process_1_41 (E := E) (P := P) (h := h) (x1 := x1) (x2 := x2) hR n1 n2 n3 n4 n5 n6 n7 n8 n9 n10 n11 n12 k
    rw [m_MO_process_1_41, if_pos q2] at j
    exact j
def f_MO_process_1 (h : ev_H) (x1 : Int32) (x2 : Int32) : Int32 × ev_H := f_MO_process_1_15 h x1 x2
theorem c_MO_process_1 {E : ev_E} {P : Option ev_V ⊕ Nat → ev_H → Prop} {h : ev_H} {x1 : Int32} {x2 : Int32} (v0 : f_MO_isUnit h x1 = 1) (hR : rfs h) (n2 : ¬ x1 < 0) (n3 : x1.toNatClampNeg < 48) (n4 : ¬ (gI h 0 6 2) < 0) (n5 : (((f_MO_refused h 0 (m_MO_process_1_41 x1 x2) (m_MO_process_1_70 h x1 x2) (m_MO_process_1_92 h x1 x2)).1) = 0) → (¬ (x2 = 0)) → (¬ (x2 = 1)) → (¬ (x2 = 2)) → (gI h 0 6 2).toNatClampNeg < 48) (n6 : (((f_MO_refused h 0 (m_MO_process_1_41 x1 x2) (m_MO_process_1_70 h x1 x2) (m_MO_process_1_92 h x1 x2)).1) = 0) → (¬ (x2 = 0)) → (¬ (x2 = 1)) → (x2 = 2) → (gI h 0 6 2).toNatClampNeg < 48) (n7 : (((f_MO_refused h 0 (m_MO_process_1_41 x1 x2) (m_MO_process_1_70 h x1 x2) (m_MO_process_1_92 h x1 x2)).1) = 0) → (¬ (x2 = 0)) → (x2 = 1) → (¬ (x2 = 2)) → (gI h 0 6 2).toNatClampNeg < 48) (n8 : (((f_MO_refused h 0 (m_MO_process_1_41 x1 x2) (m_MO_process_1_70 h x1 x2) (m_MO_process_1_92 h x1 x2)).1) = 0) → (¬ (x2 = 0)) → (x2 = 1) → (x2 = 2) → (gI h 0 6 2).toNatClampNeg < 48) (n9 : (((f_MO_refused h 0 (m_MO_process_1_41 x1 x2) (m_MO_process_1_70 h x1 x2) (m_MO_process_1_92 h x1 x2)).1) = 0) → (x2 = 0) → (gI h 0 6 2).toNatClampNeg < 48) (n10 : ¬ (gI ((f_MO_add ((f_MO_refused h 0 (m_MO_process_1_41 x1 x2) (m_MO_process_1_70 h x1 x2) (m_MO_process_1_92 h x1 x2)).2) x1 0 0 (-1)).2) 0 6 2) < 0) (n11 : (((f_MO_refused h 0 (m_MO_process_1_41 x1 x2) (m_MO_process_1_70 h x1 x2) (m_MO_process_1_92 h x1 x2)).1) = 0) → (x2 = 0) → (gI ((f_MO_add ((f_MO_refused h 0 (m_MO_process_1_41 x1 x2) (m_MO_process_1_70 h x1 x2) (m_MO_process_1_92 h x1 x2)).2) x1 0 0 (-1)).2) 0 6 2).toNatClampNeg < 48) (n12 : ¬ (gI ((f_MO_add ((f_MO_add ((f_MO_refused h 0 (m_MO_process_1_41 x1 x2) (m_MO_process_1_70 h x1 x2) (m_MO_process_1_92 h x1 x2)).2) x1 0 0 (-1)).2) x1 1 0 (-1)).2) 0 6 2) < 0) (n13 : (((f_MO_refused h 0 (m_MO_process_1_41 x1 x2) (m_MO_process_1_70 h x1 x2) (m_MO_process_1_92 h x1 x2)).1) = 0) → (x2 = 0) → (gI ((f_MO_add ((f_MO_add ((f_MO_refused h 0 (m_MO_process_1_41 x1 x2) (m_MO_process_1_70 h x1 x2) (m_MO_process_1_92 h x1 x2)).2) x1 0 0 (-1)).2) x1 1 0 (-1)).2) 0 6 2).toNatClampNeg < 48) (k : P (.inl (some (vI (f_MO_process_1 h x1 x2).1))) (f_MO_process_1 h x1 x2).2) : Ev E M_MO_process 0 [(0, vR 0 6), (1, vI x1), (2, vI x2)] [] h P := by
  refine Ev_aload_n (pc := 0) d_MO_process_0 rfl ?_
  refine Ev_iload_n (pc := 1) d_MO_process_1 rfl ?_
  refine Ev_callV (M' := M_MO_isUnit) (as := [vI x1]) (st := []) (a := 0) (i := 6) (pc := 2) d_MO_process_2 rfl rfl rfl rfl rfl rfl rfl v_MO_isUnit lk_MO_111 rfl rfl (c_MO_isUnitV (v := 1) v0 ?_)
  refine Ev_istore_n (pc := 5) d_MO_process_5 rfl ?_
  refine Ev_iload_n (pc := 6) d_MO_process_6 rfl ?_
  refine Ev_if_ne (tgt := 14) (pc := 7) d_MO_process_7 rfl (fun q1 => ?_) (fun q1 => ?_)
  · refine Ev_iconst (v := 1) (pc := 14) d_MO_process_14 (by decide) ?_
    rw [f_MO_process_1] at k
    have j := c_MO_process_1_15 (E := E) (P := P) (h := h) (x1 := x1) (x2 := x2) hR n2 n3 n4 n5 n6 n7 n8 n9 n10 n11 n12 n13 k
    rw [m_MO_process_1_15, if_neg q1] at j
    exact j
  · refine Ev_iconst (v := 3) (pc := 10) d_MO_process_10 (by decide) ?_
    refine Ev_goto (tgt := 15) (pc := 11) d_MO_process_11 rfl ?_
    rw [f_MO_process_1] at k
    have j := c_MO_process_1_15 (E := E) (P := P) (h := h) (x1 := x1) (x2 := x2) hR n2 n3 n4 n5 n6 n7 n8 n9 n10 n11 n12 n13 k
    rw [m_MO_process_1_15, if_pos q1] at j
    exact j
def m_MO_process_0_15 (x1 : Int32) (x2 : Int32) : Int32 := (if x2 = 0 then 3 else 1)
def m_MO_process_0_41 (x1 : Int32) (x2 : Int32) : Int32 := (if (f_MO_in x2 0 3) = 0 then 1 else 0)
def f_MO_process_0_41 (h : ev_H) (x1 : Int32) (x2 : Int32) : Int32 × ev_H := (0, (sI h 0 6 0 1))
theorem c_MO_process_0_41 {E : ev_E} {P : Option ev_V ⊕ Nat → ev_H → Prop} {h : ev_H} {x1 : Int32} {x2 : Int32} (k : P (.inl (some (vI (f_MO_process_0_41 h x1 x2).1))) (f_MO_process_0_41 h x1 x2).2) : Ev E M_MO_process 41 [(0, vR 0 6), (1, vI x1), (2, vI x2), (3, vI 0), (4, vI (m_MO_process_0_15 x1 x2))] [vI (m_MO_process_0_41 x1 x2), vI 1, vR 0 6] h P := by
  refine Ev_iload_n (pc := 41) d_MO_process_41 rfl ?_
  refine Ev_if_eq (tgt := 69) (pc := 42) d_MO_process_42 rfl (fun _ => ?_) (fun q => absurd q (by decide))
  refine Ev_iconst (v := 0) (pc := 69) d_MO_process_69 (by decide) ?_
  refine Ev_iload_n (pc := 70) d_MO_process_70 rfl ?_
  refine Ev_if_eq (tgt := 91) (pc := 71) d_MO_process_71 rfl (fun _ => ?_) (fun q => absurd q (by decide))
  refine Ev_iconst (v := 0) (pc := 91) d_MO_process_91 (by decide) ?_
  refine Ev_callV (M' := M_MO_refused) (as := [vI 1, vI (m_MO_process_0_41 x1 x2), vI 0, vI 0]) (st := []) (a := 0) (i := 6) (pc := 92) d_MO_process_92 rfl rfl rfl rfl rfl rfl rfl v_MO_refused lk_MO_85 rfl rfl (c_MO_refused1  ?_)
  refine Ev_if_eq (tgt := 100) (pc := 95) d_MO_process_95 rfl (fun q => absurd q (by decide)) (fun _ => ?_)
  refine Ev_iconst (v := 0) (pc := 98) d_MO_process_98 (by decide) ?_
  refine Ev_ireturn (pc := 99) d_MO_process_99 rfl rfl ?_
  rw [f_MO_process_0_41] at k
  exact k
def f_MO_process_0_15 (h : ev_H) (x1 : Int32) (x2 : Int32) : Int32 × ev_H := f_MO_process_0_41 h x1 x2
theorem c_MO_process_0_15 {E : ev_E} {P : Option ev_V ⊕ Nat → ev_H → Prop} {h : ev_H} {x1 : Int32} {x2 : Int32} (k : P (.inl (some (vI (f_MO_process_0_15 h x1 x2).1))) (f_MO_process_0_15 h x1 x2).2) : Ev E M_MO_process 15 [(0, vR 0 6), (1, vI x1), (2, vI x2), (3, vI 0)] [vI (m_MO_process_0_15 x1 x2)] h P := by
  refine Ev_istore (pc := 15) d_MO_process_15 rfl ?_
  refine Ev_aload_n (pc := 17) d_MO_process_17 rfl ?_
  refine Ev_iload_n (pc := 18) d_MO_process_18 rfl ?_
  refine Ev_if_ne (tgt := 26) (pc := 19) d_MO_process_19 rfl (fun q => absurd q (by decide)) (fun _ => ?_)
  refine Ev_iconst (v := 1) (pc := 22) d_MO_process_22 (by decide) ?_
  refine Ev_goto (tgt := 27) (pc := 23) d_MO_process_23 rfl ?_
  refine Ev_iload_n (pc := 27) d_MO_process_27 rfl ?_
  refine Ev_iconst (v := 0) (pc := 28) d_MO_process_28 (by decide) ?_
  refine Ev_iconst (v := 3) (pc := 29) d_MO_process_29 (by decide) ?_
  refine Ev_callS (M' := M_MO_in) (as := [vI x2, vI 0, vI 3]) (st := [vI 1, vR 0 6]) (pc := 30) d_MO_process_30 rfl rfl rfl s_MO_in lk_MO_77 rfl rfl (c_MO_in  ?_)
  refine Ev_if_ne (tgt := 40) (pc := 33) d_MO_process_33 rfl (fun q2 => ?_) (fun q2 => ?_)
  · refine Ev_iconst (v := 0) (pc := 40) d_MO_process_40 (by decide) ?_
    rw [f_MO_process_0_15] at k
    have j := c_MO_process_0_41 (E := E) (P := P) (h := h) (x1 := x1) (x2 := x2)  k
    rw [m_MO_process_0_41, if_neg q2] at j
    exact j
  · refine Ev_iconst (v := 1) (pc := 36) d_MO_process_36 (by decide) ?_
    refine Ev_goto (tgt := 41) (pc := 37) d_MO_process_37 rfl ?_
    rw [f_MO_process_0_15] at k
    have j := c_MO_process_0_41 (E := E) (P := P) (h := h) (x1 := x1) (x2 := x2)  k
    rw [m_MO_process_0_41, if_pos q2] at j
    exact j
def f_MO_process_0 (h : ev_H) (x1 : Int32) (x2 : Int32) : Int32 × ev_H := f_MO_process_0_15 h x1 x2
theorem c_MO_process_0 {E : ev_E} {P : Option ev_V ⊕ Nat → ev_H → Prop} {h : ev_H} {x1 : Int32} {x2 : Int32} (v0 : f_MO_isUnit h x1 = 0) (k : P (.inl (some (vI (f_MO_process_0 h x1 x2).1))) (f_MO_process_0 h x1 x2).2) : Ev E M_MO_process 0 [(0, vR 0 6), (1, vI x1), (2, vI x2)] [] h P := by
  refine Ev_aload_n (pc := 0) d_MO_process_0 rfl ?_
  refine Ev_iload_n (pc := 1) d_MO_process_1 rfl ?_
  refine Ev_callV (M' := M_MO_isUnit) (as := [vI x1]) (st := []) (a := 0) (i := 6) (pc := 2) d_MO_process_2 rfl rfl rfl rfl rfl rfl rfl v_MO_isUnit lk_MO_111 rfl rfl (c_MO_isUnitV (v := 0) v0 ?_)
  refine Ev_istore_n (pc := 5) d_MO_process_5 rfl ?_
  refine Ev_iload_n (pc := 6) d_MO_process_6 rfl ?_
  refine Ev_if_ne (tgt := 14) (pc := 7) d_MO_process_7 rfl (fun q1 => ?_) (fun q1 => ?_)
  · refine Ev_iconst (v := 1) (pc := 14) d_MO_process_14 (by decide) ?_
    rw [f_MO_process_0] at k
    have j := c_MO_process_0_15 (E := E) (P := P) (h := h) (x1 := x1) (x2 := x2)  k
    rw [m_MO_process_0_15, if_neg q1] at j
    exact j
  · refine Ev_iconst (v := 3) (pc := 10) d_MO_process_10 (by decide) ?_
    refine Ev_goto (tgt := 15) (pc := 11) d_MO_process_11 rfl ?_
    rw [f_MO_process_0] at k
    have j := c_MO_process_0_15 (E := E) (P := P) (h := h) (x1 := x1) (x2 := x2)  k
    rw [m_MO_process_0_15, if_pos q1] at j
    exact j
def m_MO_pool_11_56 (h : ev_H) (x1 : Int32) (x2 : Int32) : Int32 := (if (f_MO_isReady h x1) = 0 then 0 else (if (f_MO_isReady h x2) = 0 then 0 else (if 48 ≤ (gI h 0 6 2) then 0 else 1)))
def m_MO_pool_11_117 (h : ev_H) (x1 : Int32) (x2 : Int32) : Int32 := (if (gI h 0 7 x1.toNatClampNeg) = 2 then (if (gI h 0 7 x2.toNatClampNeg) = 2 then (if (gI h 0 8 x1.toNatClampNeg) = (gI h 0 8 x2.toNatClampNeg) then (if (gI h 0 9 x1.toNatClampNeg) = (gI h 0 9 x2.toNatClampNeg) then 1 else 0) else 0) else 0) else 0)
def m_MO_pool_11_139 (x1 : Int32) (x2 : Int32) : Int32 := (if x1 = x2 then 1 else 0)
def m_MO_pool_11_149 (h : ev_H) (x1 : Int32) (x2 : Int32) : Int32 := (if (m_MO_pool_11_56 h x1 x2) = 0 then 1 else 0)
def m_MO_pool_11_159 (h : ev_H) (x1 : Int32) (x2 : Int32) : Int32 := (if (m_MO_pool_11_117 h x1 x2) = 0 then 1 else 0)
def vv_MO_pool_11_177 (h : ev_H) (x1 : Int32) (x2 : Int32) : Int32 := (f_MO_add ((f_MO_refused h 0 (m_MO_pool_11_139 x1 x2) (m_MO_pool_11_149 h x1 x2) (m_MO_pool_11_159 h x1 x2)).2) x1 2 0 (-1)).1
def hp_MO_pool_11_197 (h : ev_H) (x1 : Int32) (x2 : Int32) : ev_H := sI ((f_MO_add ((f_MO_refused h 0 (m_MO_pool_11_139 x1 x2) (m_MO_pool_11_149 h x1 x2) (m_MO_pool_11_159 h x1 x2)).2) x1 2 0 (-1)).2) 0 10 (vv_MO_pool_11_177 h x1 x2).toNatClampNeg ((gI ((f_MO_add ((f_MO_refused h 0 (m_MO_pool_11_139 x1 x2) (m_MO_pool_11_149 h x1 x2) (m_MO_pool_11_159 h x1 x2)).2) x1 2 0 (-1)).2) 0 10 x1.toNatClampNeg) ||| (gI ((f_MO_add ((f_MO_refused h 0 (m_MO_pool_11_139 x1 x2) (m_MO_pool_11_149 h x1 x2) (m_MO_pool_11_159 h x1 x2)).2) x1 2 0 (-1)).2) 0 10 x2.toNatClampNeg))
def hp_MO_pool_11_217 (h : ev_H) (x1 : Int32) (x2 : Int32) : ev_H := sI (hp_MO_pool_11_197 h x1 x2) 0 11 (vv_MO_pool_11_177 h x1 x2).toNatClampNeg ((gI (hp_MO_pool_11_197 h x1 x2) 0 11 x1.toNatClampNeg) &&& (gI (hp_MO_pool_11_197 h x1 x2) 0 11 x2.toNatClampNeg))
def hp_MO_pool_11_237 (h : ev_H) (x1 : Int32) (x2 : Int32) : ev_H := sI (hp_MO_pool_11_217 h x1 x2) 0 12 (vv_MO_pool_11_177 h x1 x2).toNatClampNeg ((gI (hp_MO_pool_11_217 h x1 x2) 0 12 x1.toNatClampNeg) &&& (gI (hp_MO_pool_11_217 h x1 x2) 0 12 x2.toNatClampNeg))
def m_MO_pool_11_273 (h : ev_H) (x1 : Int32) (x2 : Int32) : Int32 := (if (gI (hp_MO_pool_11_237 h x1 x2) 0 13 x2.toNatClampNeg) ≤ (gI (hp_MO_pool_11_237 h x1 x2) 0 13 x1.toNatClampNeg) then gI (hp_MO_pool_11_237 h x1 x2) 0 13 x2.toNatClampNeg else gI (hp_MO_pool_11_237 h x1 x2) 0 13 x1.toNatClampNeg)
def hp_MO_pool_11_294 (h : ev_H) (x1 : Int32) (x2 : Int32) : ev_H := sI (sI (hp_MO_pool_11_237 h x1 x2) 0 13 (vv_MO_pool_11_177 h x1 x2).toNatClampNeg (m_MO_pool_11_273 h x1 x2)) 0 14 (vv_MO_pool_11_177 h x1 x2).toNatClampNeg ((gI (sI (hp_MO_pool_11_237 h x1 x2) 0 13 (vv_MO_pool_11_177 h x1 x2).toNatClampNeg (m_MO_pool_11_273 h x1 x2)) 0 14 x1.toNatClampNeg) ||| (gI (sI (hp_MO_pool_11_237 h x1 x2) 0 13 (vv_MO_pool_11_177 h x1 x2).toNatClampNeg (m_MO_pool_11_273 h x1 x2)) 0 14 x2.toNatClampNeg))
def f_MO_pool_11_273 (h : ev_H) (x1 : Int32) (x2 : Int32) : Int32 × ev_H := ((vv_MO_pool_11_177 h x1 x2), (sI (sI (hp_MO_pool_11_294 h x1 x2) 0 15 x1.toNatClampNeg 5) 0 15 x2.toNatClampNeg 5))
theorem c_MO_pool_11_273 {E : ev_E} {P : Option ev_V ⊕ Nat → ev_H → Prop} {h : ev_H} {x1 : Int32} {x2 : Int32} (n1 : ¬ (vv_MO_pool_11_177 h x1 x2) < 0) (n2 : (vv_MO_pool_11_177 h x1 x2).toNatClampNeg < 48) (hR : rfs h) (n4 : ¬ x1 < 0) (n5 : x1.toNatClampNeg < 48) (n6 : ¬ x2 < 0) (n7 : x2.toNatClampNeg < 48) (k : P (.inl (some (vI (f_MO_pool_11_273 h x1 x2).1))) (f_MO_pool_11_273 h x1 x2).2) : Ev E M_MO_pool 273 [(0, vR 0 6), (1, vI x1), (2, vI x2), (3, vI 1), (4, vI (m_MO_pool_11_56 h x1 x2)), (5, vI (m_MO_pool_11_117 h x1 x2)), (6, vI (vv_MO_pool_11_177 h x1 x2))] [vI (m_MO_pool_11_273 h x1 x2), vI (vv_MO_pool_11_177 h x1 x2), vR 0 13] (hp_MO_pool_11_237 h x1 x2) P := by
  refine Ev_iast (pc := 273) d_MO_pool_273 rfl rfl n1 n2 ?_
  refine Ev_aload_n (pc := 274) d_MO_pool_274 rfl ?_
  refine Ev_getR (pc := 275) d_MO_pool_275 rfl rfl rfl fl_MO_31 (rf_MO_10 hR) ?_
  refine Ev_iload (pc := 278) d_MO_pool_278 rfl ?_
  refine Ev_aload_n (pc := 280) d_MO_pool_280 rfl ?_
  refine Ev_getR (pc := 281) d_MO_pool_281 rfl rfl rfl fl_MO_31 (rf_MO_10 hR) ?_
  refine Ev_iload_n (pc := 284) d_MO_pool_284 rfl ?_
  refine Ev_iald (pc := 285) d_MO_pool_285 rfl rfl n4 n5 ?_
  refine Ev_aload_n (pc := 286) d_MO_pool_286 rfl ?_
  refine Ev_getR (pc := 287) d_MO_pool_287 rfl rfl rfl fl_MO_31 (rf_MO_10 hR) ?_
  refine Ev_iload_n (pc := 290) d_MO_pool_290 rfl ?_
  refine Ev_iald (pc := 291) d_MO_pool_291 rfl rfl n6 n7 ?_
  refine Ev_ior (pc := 292) d_MO_pool_292 ?_
  refine Ev_iast (pc := 293) d_MO_pool_293 rfl rfl n1 n2 ?_
  show Ev E M_MO_pool 294 [(0, vR 0 6), (1, vI x1), (2, vI x2), (3, vI 1), (4, vI (m_MO_pool_11_56 h x1 x2)), (5, vI (m_MO_pool_11_117 h x1 x2)), (6, vI (vv_MO_pool_11_177 h x1 x2))] [] (hp_MO_pool_11_294 h x1 x2) P
  refine Ev_aload_n (pc := 294) d_MO_pool_294 rfl ?_
  refine Ev_getR (pc := 295) d_MO_pool_295 rfl rfl rfl fl_MO_34 (rf_MO_11 hR) ?_
  refine Ev_iload_n (pc := 298) d_MO_pool_298 rfl ?_
  refine Ev_iconst (v := 5) (pc := 299) d_MO_pool_299 (by decide) ?_
  refine Ev_iast (pc := 300) d_MO_pool_300 rfl rfl n4 n5 ?_
  refine Ev_aload_n (pc := 301) d_MO_pool_301 rfl ?_
  refine Ev_getR (pc := 302) d_MO_pool_302 rfl rfl rfl fl_MO_34 (rf_MO_11 hR) ?_
  refine Ev_iload_n (pc := 305) d_MO_pool_305 rfl ?_
  refine Ev_iconst (v := 5) (pc := 306) d_MO_pool_306 (by decide) ?_
  refine Ev_iast (pc := 307) d_MO_pool_307 rfl rfl n6 n7 ?_
  refine Ev_iload (pc := 308) d_MO_pool_308 rfl ?_
  refine Ev_ireturn (pc := 310) d_MO_pool_310 rfl rfl ?_
  rw [f_MO_pool_11_273] at k
  exact k
def f_MO_pool_11_159 (h : ev_H) (x1 : Int32) (x2 : Int32) : Int32 × ev_H := ((if ((f_MO_refused h 0 (m_MO_pool_11_139 x1 x2) (m_MO_pool_11_149 h x1 x2) (m_MO_pool_11_159 h x1 x2)).1) = 0 then (f_MO_pool_11_273 h x1 x2).1 else 0), (if ((f_MO_refused h 0 (m_MO_pool_11_139 x1 x2) (m_MO_pool_11_149 h x1 x2) (m_MO_pool_11_159 h x1 x2)).1) = 0 then (f_MO_pool_11_273 h x1 x2).2 else ((f_MO_refused h 0 (m_MO_pool_11_139 x1 x2) (m_MO_pool_11_149 h x1 x2) (m_MO_pool_11_159 h x1 x2)).2)))
theorem c_MO_pool_11_159 {E : ev_E} {P : Option ev_V ⊕ Nat → ev_H → Prop} {h : ev_H} {x1 : Int32} {x2 : Int32} (hR : rfs h) (n1 : ¬ (gI h 0 6 2) < 0) (n2 : (((f_MO_refused h 0 (m_MO_pool_11_139 x1 x2) (m_MO_pool_11_149 h x1 x2) (m_MO_pool_11_159 h x1 x2)).1) = 0) → (gI h 0 6 2).toNatClampNeg < 48) (n3 : ¬ x1 < 0) (n4 : x1.toNatClampNeg < 48) (n5 : ¬ x2 < 0) (n6 : x2.toNatClampNeg < 48) (n7 : ¬ (vv_MO_pool_11_177 h x1 x2) < 0) (n8 : (((f_MO_refused h 0 (m_MO_pool_11_139 x1 x2) (m_MO_pool_11_149 h x1 x2) (m_MO_pool_11_159 h x1 x2)).1) = 0) → (vv_MO_pool_11_177 h x1 x2).toNatClampNeg < 48) (k : P (.inl (some (vI (f_MO_pool_11_159 h x1 x2).1))) (f_MO_pool_11_159 h x1 x2).2) : Ev E M_MO_pool 159 [(0, vR 0 6), (1, vI x1), (2, vI x2), (3, vI 1), (4, vI (m_MO_pool_11_56 h x1 x2)), (5, vI (m_MO_pool_11_117 h x1 x2))] [vI (m_MO_pool_11_159 h x1 x2), vI (m_MO_pool_11_149 h x1 x2), vI (m_MO_pool_11_139 x1 x2), vI 0, vR 0 6] h P := by
  refine Ev_callV (M' := M_MO_refused) (as := [vI 0, vI (m_MO_pool_11_139 x1 x2), vI (m_MO_pool_11_149 h x1 x2), vI (m_MO_pool_11_159 h x1 x2)]) (st := []) (a := 0) (i := 6) (pc := 159) d_MO_pool_159 rfl rfl rfl rfl rfl rfl rfl v_MO_refused lk_MO_85 rfl rfl (c_MO_refused  ?_)
  refine Ev_if_eq (tgt := 167) (pc := 162) d_MO_pool_162 rfl (fun q11 => ?_) (fun q11 => ?_)
  · refine Ev_aload_n (pc := 167) d_MO_pool_167 rfl ?_
    refine Ev_iload_n (pc := 168) d_MO_pool_168 rfl ?_
    refine Ev_iconst (v := 2) (pc := 169) d_MO_pool_169 (by decide) ?_
    refine Ev_iconst (v := 0) (pc := 170) d_MO_pool_170 (by decide) ?_
    refine Ev_iconst (v := -1) (pc := 171) d_MO_pool_171 (by decide) ?_
    refine Ev_callV (M' := M_MO_add) (as := [vI x1, vI 2, vI 0, vI (-1)]) (st := []) (a := 0) (i := 6) (pc := 172) d_MO_pool_172 rfl rfl rfl rfl rfl rfl rfl v_MO_add lk_MO_107 rfl rfl (c_MO_add hR n1 (n2 q11) n3 n4 ?_)
    refine Ev_istore (pc := 175) d_MO_pool_175 rfl ?_
    show Ev E M_MO_pool 177 [(0, vR 0 6), (1, vI x1), (2, vI x2), (3, vI 1), (4, vI (m_MO_pool_11_56 h x1 x2)), (5, vI (m_MO_pool_11_117 h x1 x2)), (6, vI (vv_MO_pool_11_177 h x1 x2))] [] ((f_MO_add ((f_MO_refused h 0 (m_MO_pool_11_139 x1 x2) (m_MO_pool_11_149 h x1 x2) (m_MO_pool_11_159 h x1 x2)).2) x1 2 0 (-1)).2) P
    refine Ev_aload_n (pc := 177) d_MO_pool_177 rfl ?_
    refine Ev_getR (pc := 178) d_MO_pool_178 rfl rfl rfl fl_MO_19 (rf_MO_6 hR) ?_
    refine Ev_iload (pc := 181) d_MO_pool_181 rfl ?_
    refine Ev_aload_n (pc := 183) d_MO_pool_183 rfl ?_
    refine Ev_getR (pc := 184) d_MO_pool_184 rfl rfl rfl fl_MO_19 (rf_MO_6 hR) ?_
    refine Ev_iload_n (pc := 187) d_MO_pool_187 rfl ?_
    refine Ev_iald (pc := 188) d_MO_pool_188 rfl rfl n3 n4 ?_
    refine Ev_aload_n (pc := 189) d_MO_pool_189 rfl ?_
    refine Ev_getR (pc := 190) d_MO_pool_190 rfl rfl rfl fl_MO_19 (rf_MO_6 hR) ?_
    refine Ev_iload_n (pc := 193) d_MO_pool_193 rfl ?_
    refine Ev_iald (pc := 194) d_MO_pool_194 rfl rfl n5 n6 ?_
    refine Ev_ior (pc := 195) d_MO_pool_195 ?_
    refine Ev_iast (pc := 196) d_MO_pool_196 rfl rfl n7 (n8 q11) ?_
    show Ev E M_MO_pool 197 [(0, vR 0 6), (1, vI x1), (2, vI x2), (3, vI 1), (4, vI (m_MO_pool_11_56 h x1 x2)), (5, vI (m_MO_pool_11_117 h x1 x2)), (6, vI (vv_MO_pool_11_177 h x1 x2))] [] (hp_MO_pool_11_197 h x1 x2) P
    refine Ev_aload_n (pc := 197) d_MO_pool_197 rfl ?_
    refine Ev_getR (pc := 198) d_MO_pool_198 rfl rfl rfl fl_MO_22 (rf_MO_7 hR) ?_
    refine Ev_iload (pc := 201) d_MO_pool_201 rfl ?_
    refine Ev_aload_n (pc := 203) d_MO_pool_203 rfl ?_
    refine Ev_getR (pc := 204) d_MO_pool_204 rfl rfl rfl fl_MO_22 (rf_MO_7 hR) ?_
    refine Ev_iload_n (pc := 207) d_MO_pool_207 rfl ?_
    refine Ev_iald (pc := 208) d_MO_pool_208 rfl rfl n3 n4 ?_
    refine Ev_aload_n (pc := 209) d_MO_pool_209 rfl ?_
    refine Ev_getR (pc := 210) d_MO_pool_210 rfl rfl rfl fl_MO_22 (rf_MO_7 hR) ?_
    refine Ev_iload_n (pc := 213) d_MO_pool_213 rfl ?_
    refine Ev_iald (pc := 214) d_MO_pool_214 rfl rfl n5 n6 ?_
    refine Ev_iand (pc := 215) d_MO_pool_215 ?_
    refine Ev_iast (pc := 216) d_MO_pool_216 rfl rfl n7 (n8 q11) ?_
    show Ev E M_MO_pool 217 [(0, vR 0 6), (1, vI x1), (2, vI x2), (3, vI 1), (4, vI (m_MO_pool_11_56 h x1 x2)), (5, vI (m_MO_pool_11_117 h x1 x2)), (6, vI (vv_MO_pool_11_177 h x1 x2))] [] (hp_MO_pool_11_217 h x1 x2) P
    refine Ev_aload_n (pc := 217) d_MO_pool_217 rfl ?_
    refine Ev_getR (pc := 218) d_MO_pool_218 rfl rfl rfl fl_MO_25 (rf_MO_8 hR) ?_
    refine Ev_iload (pc := 221) d_MO_pool_221 rfl ?_
    refine Ev_aload_n (pc := 223) d_MO_pool_223 rfl ?_
    refine Ev_getR (pc := 224) d_MO_pool_224 rfl rfl rfl fl_MO_25 (rf_MO_8 hR) ?_
    refine Ev_iload_n (pc := 227) d_MO_pool_227 rfl ?_
    refine Ev_iald (pc := 228) d_MO_pool_228 rfl rfl n3 n4 ?_
    refine Ev_aload_n (pc := 229) d_MO_pool_229 rfl ?_
    refine Ev_getR (pc := 230) d_MO_pool_230 rfl rfl rfl fl_MO_25 (rf_MO_8 hR) ?_
    refine Ev_iload_n (pc := 233) d_MO_pool_233 rfl ?_
    refine Ev_iald (pc := 234) d_MO_pool_234 rfl rfl n5 n6 ?_
    refine Ev_iand (pc := 235) d_MO_pool_235 ?_
    refine Ev_iast (pc := 236) d_MO_pool_236 rfl rfl n7 (n8 q11) ?_
    show Ev E M_MO_pool 237 [(0, vR 0 6), (1, vI x1), (2, vI x2), (3, vI 1), (4, vI (m_MO_pool_11_56 h x1 x2)), (5, vI (m_MO_pool_11_117 h x1 x2)), (6, vI (vv_MO_pool_11_177 h x1 x2))] [] (hp_MO_pool_11_237 h x1 x2) P
    refine Ev_aload_n (pc := 237) d_MO_pool_237 rfl ?_
    refine Ev_getR (pc := 238) d_MO_pool_238 rfl rfl rfl fl_MO_28 (rf_MO_9 hR) ?_
    refine Ev_iload (pc := 241) d_MO_pool_241 rfl ?_
    refine Ev_aload_n (pc := 243) d_MO_pool_243 rfl ?_
    refine Ev_getR (pc := 244) d_MO_pool_244 rfl rfl rfl fl_MO_28 (rf_MO_9 hR) ?_
    refine Ev_iload_n (pc := 247) d_MO_pool_247 rfl ?_
    refine Ev_iald (pc := 248) d_MO_pool_248 rfl rfl n3 n4 ?_
    refine Ev_aload_n (pc := 249) d_MO_pool_249 rfl ?_
    refine Ev_getR (pc := 250) d_MO_pool_250 rfl rfl rfl fl_MO_28 (rf_MO_9 hR) ?_
    refine Ev_iload_n (pc := 253) d_MO_pool_253 rfl ?_
    refine Ev_iald (pc := 254) d_MO_pool_254 rfl rfl n5 n6 ?_
    refine Ev_icmp_ge (tgt := 267) (pc := 255) d_MO_pool_255 rfl (fun q12 => ?_) (fun q12 => ?_)
    · refine Ev_aload_n (pc := 267) d_MO_pool_267 rfl ?_
      refine Ev_getR (pc := 268) d_MO_pool_268 rfl rfl rfl fl_MO_28 (rf_MO_9 hR) ?_
      refine Ev_iload_n (pc := 271) d_MO_pool_271 rfl ?_
      refine Ev_iald (pc := 272) d_MO_pool_272 rfl rfl n5 n6 ?_
      simp only [f_MO_pool_11_159, if_pos q11] at k
      have j := c_MO_pool_11_273 (E := E) (P := P) (h := h) (x1 := x1) (x2 := x2) n7 ((n8 q11)) hR n3 n4 n5 n6 k
      rw [m_MO_pool_11_273, if_pos q12] at j
      exact j
    · refine Ev_aload_n (pc := 258) d_MO_pool_258 rfl ?_
      refine Ev_getR (pc := 259) d_MO_pool_259 rfl rfl rfl fl_MO_28 (rf_MO_9 hR) ?_
      refine Ev_iload_n (pc := 262) d_MO_pool_262 rfl ?_
      refine Ev_iald (pc := 263) d_MO_pool_263 rfl rfl n3 n4 ?_
      refine Ev_goto (tgt := 273) (pc := 264) d_MO_pool_264 rfl ?_
      simp only [f_MO_pool_11_159, if_pos q11] at k
      have j := c_MO_pool_11_273 (E := E) (P := P) (h := h) (x1 := x1) (x2 := x2) n7 ((n8 q11)) hR n3 n4 n5 n6 k
      rw [m_MO_pool_11_273, if_neg q12] at j
      exact j
  · refine Ev_iconst (v := 0) (pc := 165) d_MO_pool_165 (by decide) ?_
    refine Ev_ireturn (pc := 166) d_MO_pool_166 rfl rfl ?_
    simp only [f_MO_pool_11_159, if_neg q11] at k
    exact k
def f_MO_pool_11_149 (h : ev_H) (x1 : Int32) (x2 : Int32) : Int32 × ev_H := f_MO_pool_11_159 h x1 x2
theorem c_MO_pool_11_149 {E : ev_E} {P : Option ev_V ⊕ Nat → ev_H → Prop} {h : ev_H} {x1 : Int32} {x2 : Int32} (hR : rfs h) (n1 : ¬ (gI h 0 6 2) < 0) (n2 : (((f_MO_refused h 0 (m_MO_pool_11_139 x1 x2) (m_MO_pool_11_149 h x1 x2) (m_MO_pool_11_159 h x1 x2)).1) = 0) → (gI h 0 6 2).toNatClampNeg < 48) (n3 : ¬ x1 < 0) (n4 : x1.toNatClampNeg < 48) (n5 : ¬ x2 < 0) (n6 : x2.toNatClampNeg < 48) (n7 : ¬ (vv_MO_pool_11_177 h x1 x2) < 0) (n8 : (((f_MO_refused h 0 (m_MO_pool_11_139 x1 x2) (m_MO_pool_11_149 h x1 x2) (m_MO_pool_11_159 h x1 x2)).1) = 0) → (vv_MO_pool_11_177 h x1 x2).toNatClampNeg < 48) (k : P (.inl (some (vI (f_MO_pool_11_149 h x1 x2).1))) (f_MO_pool_11_149 h x1 x2).2) : Ev E M_MO_pool 149 [(0, vR 0 6), (1, vI x1), (2, vI x2), (3, vI 1), (4, vI (m_MO_pool_11_56 h x1 x2)), (5, vI (m_MO_pool_11_117 h x1 x2))] [vI (m_MO_pool_11_149 h x1 x2), vI (m_MO_pool_11_139 x1 x2), vI 0, vR 0 6] h P := by
  refine Ev_iload (pc := 149) d_MO_pool_149 rfl ?_
  refine Ev_if_ne (tgt := 158) (pc := 151) d_MO_pool_151 rfl (fun q10 => ?_) (fun q10 => ?_)
  · refine Ev_iconst (v := 0) (pc := 158) d_MO_pool_158 (by decide) ?_
    rw [f_MO_pool_11_149] at k
    have j := c_MO_pool_11_159 (E := E) (P := P) (h := h) (x1 := x1) (x2 := x2) hR n1 n2 n3 n4 n5 n6 n7 n8 k
    rw [m_MO_pool_11_159, if_neg q10] at j
    exact j
  · refine Ev_iconst (v := 1) (pc := 154) d_MO_pool_154 (by decide) ?_
    refine Ev_goto (tgt := 159) (pc := 155) d_MO_pool_155 rfl ?_
    rw [f_MO_pool_11_149] at k
    have j := c_MO_pool_11_159 (E := E) (P := P) (h := h) (x1 := x1) (x2 := x2) hR n1 n2 n3 n4 n5 n6 n7 n8 k
    rw [m_MO_pool_11_159, if_pos q10] at j
    exact j
def f_MO_pool_11_139 (h : ev_H) (x1 : Int32) (x2 : Int32) : Int32 × ev_H := f_MO_pool_11_149 h x1 x2
theorem c_MO_pool_11_139 {E : ev_E} {P : Option ev_V ⊕ Nat → ev_H → Prop} {h : ev_H} {x1 : Int32} {x2 : Int32} (hR : rfs h) (n1 : ¬ (gI h 0 6 2) < 0) (n2 : (((f_MO_refused h 0 (m_MO_pool_11_139 x1 x2) (m_MO_pool_11_149 h x1 x2) (m_MO_pool_11_159 h x1 x2)).1) = 0) → (gI h 0 6 2).toNatClampNeg < 48) (n3 : ¬ x1 < 0) (n4 : x1.toNatClampNeg < 48) (n5 : ¬ x2 < 0) (n6 : x2.toNatClampNeg < 48) (n7 : ¬ (vv_MO_pool_11_177 h x1 x2) < 0) (n8 : (((f_MO_refused h 0 (m_MO_pool_11_139 x1 x2) (m_MO_pool_11_149 h x1 x2) (m_MO_pool_11_159 h x1 x2)).1) = 0) → (vv_MO_pool_11_177 h x1 x2).toNatClampNeg < 48) (k : P (.inl (some (vI (f_MO_pool_11_139 h x1 x2).1))) (f_MO_pool_11_139 h x1 x2).2) : Ev E M_MO_pool 139 [(0, vR 0 6), (1, vI x1), (2, vI x2), (3, vI 1), (4, vI (m_MO_pool_11_56 h x1 x2)), (5, vI (m_MO_pool_11_117 h x1 x2))] [vI (m_MO_pool_11_139 x1 x2), vI 0, vR 0 6] h P := by
  refine Ev_iload (pc := 139) d_MO_pool_139 rfl ?_
  refine Ev_if_ne (tgt := 148) (pc := 141) d_MO_pool_141 rfl (fun q9 => ?_) (fun q9 => ?_)
  · refine Ev_iconst (v := 0) (pc := 148) d_MO_pool_148 (by decide) ?_
    rw [f_MO_pool_11_139] at k
    have j := c_MO_pool_11_149 (E := E) (P := P) (h := h) (x1 := x1) (x2 := x2) hR n1 n2 n3 n4 n5 n6 n7 n8 k
    rw [m_MO_pool_11_149, if_neg q9] at j
    exact j
  · refine Ev_iconst (v := 1) (pc := 144) d_MO_pool_144 (by decide) ?_
    refine Ev_goto (tgt := 149) (pc := 145) d_MO_pool_145 rfl ?_
    rw [f_MO_pool_11_139] at k
    have j := c_MO_pool_11_149 (E := E) (P := P) (h := h) (x1 := x1) (x2 := x2) hR n1 n2 n3 n4 n5 n6 n7 n8 k
    rw [m_MO_pool_11_149, if_pos q9] at j
    exact j
def f_MO_pool_11_117 (h : ev_H) (x1 : Int32) (x2 : Int32) : Int32 × ev_H := f_MO_pool_11_139 h x1 x2
theorem c_MO_pool_11_117 {E : ev_E} {P : Option ev_V ⊕ Nat → ev_H → Prop} {h : ev_H} {x1 : Int32} {x2 : Int32} (hR : rfs h) (n1 : ¬ (gI h 0 6 2) < 0) (n2 : (((f_MO_refused h 0 (m_MO_pool_11_139 x1 x2) (m_MO_pool_11_149 h x1 x2) (m_MO_pool_11_159 h x1 x2)).1) = 0) → (gI h 0 6 2).toNatClampNeg < 48) (n3 : ¬ x1 < 0) (n4 : x1.toNatClampNeg < 48) (n5 : ¬ x2 < 0) (n6 : x2.toNatClampNeg < 48) (n7 : ¬ (vv_MO_pool_11_177 h x1 x2) < 0) (n8 : (((f_MO_refused h 0 (m_MO_pool_11_139 x1 x2) (m_MO_pool_11_149 h x1 x2) (m_MO_pool_11_159 h x1 x2)).1) = 0) → (vv_MO_pool_11_177 h x1 x2).toNatClampNeg < 48) (k : P (.inl (some (vI (f_MO_pool_11_117 h x1 x2).1))) (f_MO_pool_11_117 h x1 x2).2) : Ev E M_MO_pool 117 [(0, vR 0 6), (1, vI x1), (2, vI x2), (3, vI 1), (4, vI (m_MO_pool_11_56 h x1 x2))] [vI (m_MO_pool_11_117 h x1 x2)] h P := by
  refine Ev_istore (pc := 117) d_MO_pool_117 rfl ?_
  refine Ev_aload_n (pc := 119) d_MO_pool_119 rfl ?_
  refine Ev_iload_n (pc := 120) d_MO_pool_120 rfl ?_
  refine Ev_if_ne (tgt := 128) (pc := 121) d_MO_pool_121 rfl (fun _ => ?_) (fun q => absurd q (by decide))
  refine Ev_iconst (v := 0) (pc := 128) d_MO_pool_128 (by decide) ?_
  refine Ev_iload_n (pc := 129) d_MO_pool_129 rfl ?_
  refine Ev_iload_n (pc := 130) d_MO_pool_130 rfl ?_
  refine Ev_icmp_ne (tgt := 138) (pc := 131) d_MO_pool_131 rfl (fun q8 => ?_) (fun q8 => ?_)
  · refine Ev_iconst (v := 0) (pc := 138) d_MO_pool_138 (by decide) ?_
    rw [f_MO_pool_11_117] at k
    have j := c_MO_pool_11_139 (E := E) (P := P) (h := h) (x1 := x1) (x2 := x2) hR n1 n2 n3 n4 n5 n6 n7 n8 k
    rw [m_MO_pool_11_139, if_neg q8] at j
    exact j
  · refine Ev_iconst (v := 1) (pc := 134) d_MO_pool_134 (by decide) ?_
    refine Ev_goto (tgt := 139) (pc := 135) d_MO_pool_135 rfl ?_
    rw [f_MO_pool_11_117] at k
    have j := c_MO_pool_11_139 (E := E) (P := P) (h := h) (x1 := x1) (x2 := x2) hR n1 n2 n3 n4 n5 n6 n7 n8 k
    rw [m_MO_pool_11_139, if_pos q8] at j
    exact j
def f_MO_pool_11_56 (h : ev_H) (x1 : Int32) (x2 : Int32) : Int32 × ev_H := f_MO_pool_11_117 h x1 x2
theorem c_MO_pool_11_56 {E : ev_E} {P : Option ev_V ⊕ Nat → ev_H → Prop} {h : ev_H} {x1 : Int32} {x2 : Int32} (hR : rfs h) (n1 : ¬ x1 < 0) (n2 : x1.toNatClampNeg < 48) (n3 : ¬ (gI h 0 6 2) < 0) (n4 : (((f_MO_refused h 0 (m_MO_pool_11_139 x1 x2) (m_MO_pool_11_149 h x1 x2) (m_MO_pool_11_159 h x1 x2)).1) = 0) → (gI h 0 6 2).toNatClampNeg < 48) (n5 : ¬ x2 < 0) (n6 : x2.toNatClampNeg < 48) (n7 : ¬ (vv_MO_pool_11_177 h x1 x2) < 0) (n8 : (((f_MO_refused h 0 (m_MO_pool_11_139 x1 x2) (m_MO_pool_11_149 h x1 x2) (m_MO_pool_11_159 h x1 x2)).1) = 0) → (vv_MO_pool_11_177 h x1 x2).toNatClampNeg < 48) (k : P (.inl (some (vI (f_MO_pool_11_56 h x1 x2).1))) (f_MO_pool_11_56 h x1 x2).2) : Ev E M_MO_pool 56 [(0, vR 0 6), (1, vI x1), (2, vI x2), (3, vI 1)] [vI (m_MO_pool_11_56 h x1 x2)] h P := by
  refine Ev_istore (pc := 56) d_MO_pool_56 rfl ?_
  refine Ev_iload_n (pc := 58) d_MO_pool_58 rfl ?_
  refine Ev_if_eq (tgt := 116) (pc := 59) d_MO_pool_59 rfl (fun q => absurd q (by decide)) (fun _ => ?_)
  refine Ev_aload_n (pc := 62) d_MO_pool_62 rfl ?_
  refine Ev_getR (pc := 63) d_MO_pool_63 rfl rfl rfl fl_MO_7 (rf_MO_3 hR) ?_
  refine Ev_iload_n (pc := 66) d_MO_pool_66 rfl ?_
  refine Ev_iald (pc := 67) d_MO_pool_67 rfl rfl n1 n2 ?_
  refine Ev_iconst (v := 2) (pc := 68) d_MO_pool_68 (by decide) ?_
  refine Ev_icmp_ne (tgt := 116) (pc := 69) d_MO_pool_69 rfl (fun q4 => ?_) (fun q4 => ?_)
  · refine Ev_iconst (v := 0) (pc := 116) d_MO_pool_116 (by decide) ?_
    rw [f_MO_pool_11_56] at k
    have j := c_MO_pool_11_117 (E := E) (P := P) (h := h) (x1 := x1) (x2 := x2) hR n3 n4 n1 n2 n5 n6 n7 n8 k
    rw [m_MO_pool_11_117, if_neg q4] at j
    exact j
  · refine Ev_aload_n (pc := 72) d_MO_pool_72 rfl ?_
    refine Ev_getR (pc := 73) d_MO_pool_73 rfl rfl rfl fl_MO_7 (rf_MO_3 hR) ?_
    refine Ev_iload_n (pc := 76) d_MO_pool_76 rfl ?_
    refine Ev_iald (pc := 77) d_MO_pool_77 rfl rfl n5 n6 ?_
    refine Ev_iconst (v := 2) (pc := 78) d_MO_pool_78 (by decide) ?_
    refine Ev_icmp_ne (tgt := 116) (pc := 79) d_MO_pool_79 rfl (fun q13 => ?_) (fun q13 => ?_)
    · refine Ev_iconst (v := 0) (pc := 116) d_MO_pool_116 (by decide) ?_
      rw [f_MO_pool_11_56] at k
      have j := c_MO_pool_11_117 (E := E) (P := P) (h := h) (x1 := x1) (x2 := x2) hR n3 n4 n1 n2 n5 n6 n7 n8 k
      rw [m_MO_pool_11_117, if_pos q4, if_neg q13] at j
      exact j
    · refine Ev_aload_n (pc := 82) d_MO_pool_82 rfl ?_
      refine Ev_getR (pc := 83) d_MO_pool_83 rfl rfl rfl fl_MO_13 (rf_MO_4 hR) ?_
      refine Ev_iload_n (pc := 86) d_MO_pool_86 rfl ?_
      refine Ev_iald (pc := 87) d_MO_pool_87 rfl rfl n1 n2 ?_
      refine Ev_aload_n (pc := 88) d_MO_pool_88 rfl ?_
      refine Ev_getR (pc := 89) d_MO_pool_89 rfl rfl rfl fl_MO_13 (rf_MO_4 hR) ?_
      refine Ev_iload_n (pc := 92) d_MO_pool_92 rfl ?_
      refine Ev_iald (pc := 93) d_MO_pool_93 rfl rfl n5 n6 ?_
      refine Ev_icmp_ne (tgt := 116) (pc := 94) d_MO_pool_94 rfl (fun q14 => ?_) (fun q14 => ?_)
      · refine Ev_iconst (v := 0) (pc := 116) d_MO_pool_116 (by decide) ?_
        rw [f_MO_pool_11_56] at k
        have j := c_MO_pool_11_117 (E := E) (P := P) (h := h) (x1 := x1) (x2 := x2) hR n3 n4 n1 n2 n5 n6 n7 n8 k
        rw [m_MO_pool_11_117, if_pos q4, if_pos q13, if_neg q14] at j
        exact j
      · refine Ev_aload_n (pc := 97) d_MO_pool_97 rfl ?_
        refine Ev_getR (pc := 98) d_MO_pool_98 rfl rfl rfl fl_MO_16 (rf_MO_5 hR) ?_
        refine Ev_iload_n (pc := 101) d_MO_pool_101 rfl ?_
        refine Ev_iald (pc := 102) d_MO_pool_102 rfl rfl n1 n2 ?_
        refine Ev_aload_n (pc := 103) d_MO_pool_103 rfl ?_
        refine Ev_getR (pc := 104) d_MO_pool_104 rfl rfl rfl fl_MO_16 (rf_MO_5 hR) ?_
        refine Ev_iload_n (pc := 107) d_MO_pool_107 rfl ?_
        refine Ev_iald (pc := 108) d_MO_pool_108 rfl rfl n5 n6 ?_
        refine Ev_icmp_ne (tgt := 116) (pc := 109) d_MO_pool_109 rfl (fun q15 => ?_) (fun q15 => ?_)
        · refine Ev_iconst (v := 0) (pc := 116) d_MO_pool_116 (by decide) ?_
          rw [f_MO_pool_11_56] at k
          have j := c_MO_pool_11_117 (E := E) (P := P) (h := h) (x1 := x1) (x2 := x2) hR n3 n4 n1 n2 n5 n6 n7 n8 k
          rw [m_MO_pool_11_117, if_pos q4, if_pos q13, if_pos q14, if_neg q15] at j
          exact j
        · refine Ev_iconst (v := 1) (pc := 112) d_MO_pool_112 (by decide) ?_
          refine Ev_goto (tgt := 117) (pc := 113) d_MO_pool_113 rfl ?_
          rw [f_MO_pool_11_56] at k
          have j := c_MO_pool_11_117 (E := E) (P := P) (h := h) (x1 := x1) (x2 := x2) hR n3 n4 n1 n2 n5 n6 n7 n8 k
          rw [m_MO_pool_11_117, if_pos q4, if_pos q13, if_pos q14, if_pos q15] at j
          exact j
def f_MO_pool_11 (h : ev_H) (x1 : Int32) (x2 : Int32) : Int32 × ev_H := f_MO_pool_11_56 h x1 x2
theorem c_MO_pool_11 {E : ev_E} {P : Option ev_V ⊕ Nat → ev_H → Prop} {h : ev_H} {x1 : Int32} {x2 : Int32} (v0 : f_MO_isUnit h x1 = 1) (v1 : f_MO_isUnit h x2 = 1) (hR : rfs h) (n3 : ¬ x1 < 0) (n4 : x1.toNatClampNeg < 48) (n5 : ¬ (gI h 0 6 2) < 0) (n6 : (((f_MO_refused h 0 (m_MO_pool_11_139 x1 x2) (m_MO_pool_11_149 h x1 x2) (m_MO_pool_11_159 h x1 x2)).1) = 0) → (gI h 0 6 2).toNatClampNeg < 48) (n7 : ¬ x2 < 0) (n8 : x2.toNatClampNeg < 48) (n9 : ¬ (vv_MO_pool_11_177 h x1 x2) < 0) (n10 : (((f_MO_refused h 0 (m_MO_pool_11_139 x1 x2) (m_MO_pool_11_149 h x1 x2) (m_MO_pool_11_159 h x1 x2)).1) = 0) → (vv_MO_pool_11_177 h x1 x2).toNatClampNeg < 48) (k : P (.inl (some (vI (f_MO_pool_11 h x1 x2).1))) (f_MO_pool_11 h x1 x2).2) : Ev E M_MO_pool 0 [(0, vR 0 6), (1, vI x1), (2, vI x2)] [] h P := by
  refine Ev_aload_n (pc := 0) d_MO_pool_0 rfl ?_
  refine Ev_iload_n (pc := 1) d_MO_pool_1 rfl ?_
  refine Ev_callV (M' := M_MO_isUnit) (as := [vI x1]) (st := []) (a := 0) (i := 6) (pc := 2) d_MO_pool_2 rfl rfl rfl rfl rfl rfl rfl v_MO_isUnit lk_MO_111 rfl rfl (c_MO_isUnitV (v := 1) v0 ?_)
  refine Ev_if_eq (tgt := 20) (pc := 5) d_MO_pool_5 rfl (fun q => absurd q (by decide)) (fun _ => ?_)
  refine Ev_aload_n (pc := 8) d_MO_pool_8 rfl ?_
  refine Ev_iload_n (pc := 9) d_MO_pool_9 rfl ?_
  refine Ev_callV (M' := M_MO_isUnit) (as := [vI x2]) (st := []) (a := 0) (i := 6) (pc := 10) d_MO_pool_10 rfl rfl rfl rfl rfl rfl rfl v_MO_isUnit lk_MO_111 rfl rfl (c_MO_isUnitV (v := 1) v1 ?_)
  refine Ev_if_eq (tgt := 20) (pc := 13) d_MO_pool_13 rfl (fun q => absurd q (by decide)) (fun _ => ?_)
  refine Ev_iconst (v := 1) (pc := 16) d_MO_pool_16 (by decide) ?_
  refine Ev_goto (tgt := 21) (pc := 17) d_MO_pool_17 rfl ?_
  refine Ev_istore_n (pc := 21) d_MO_pool_21 rfl ?_
  refine Ev_iload_n (pc := 22) d_MO_pool_22 rfl ?_
  refine Ev_if_eq (tgt := 55) (pc := 23) d_MO_pool_23 rfl (fun q => absurd q (by decide)) (fun _ => ?_)
  refine Ev_aload_n (pc := 26) d_MO_pool_26 rfl ?_
  refine Ev_iload_n (pc := 27) d_MO_pool_27 rfl ?_
  refine Ev_callV (M' := M_MO_isReady) (as := [vI x1]) (st := []) (a := 0) (i := 6) (pc := 28) d_MO_pool_28 rfl rfl rfl rfl rfl rfl rfl v_MO_isReady lk_MO_114 rfl rfl (c_MO_isReady hR n3 n4 ?_)
  refine Ev_if_eq (tgt := 55) (pc := 31) d_MO_pool_31 rfl (fun q1 => ?_) (fun q1 => ?_)
  · refine Ev_iconst (v := 0) (pc := 55) d_MO_pool_55 (by decide) ?_
    rw [f_MO_pool_11] at k
    have j := c_MO_pool_11_56 (E := E) (P := P) (h := h) (x1 := x1) (x2 := x2) hR n3 n4 n5 n6 n7 n8 n9 n10 k
    rw [m_MO_pool_11_56, if_pos q1] at j
    exact j
  · refine Ev_aload_n (pc := 34) d_MO_pool_34 rfl ?_
    refine Ev_iload_n (pc := 35) d_MO_pool_35 rfl ?_
    refine Ev_callV (M' := M_MO_isReady) (as := [vI x2]) (st := []) (a := 0) (i := 6) (pc := 36) d_MO_pool_36 rfl rfl rfl rfl rfl rfl rfl v_MO_isReady lk_MO_114 rfl rfl (c_MO_isReady hR n7 n8 ?_)
    refine Ev_if_eq (tgt := 55) (pc := 39) d_MO_pool_39 rfl (fun q16 => ?_) (fun q16 => ?_)
    · refine Ev_iconst (v := 0) (pc := 55) d_MO_pool_55 (by decide) ?_
      rw [f_MO_pool_11] at k
      have j := c_MO_pool_11_56 (E := E) (P := P) (h := h) (x1 := x1) (x2 := x2) hR n3 n4 n5 n6 n7 n8 n9 n10 k
      rw [m_MO_pool_11_56, if_neg q1, if_pos q16] at j
      exact j
    · refine Ev_aload_n (pc := 42) d_MO_pool_42 rfl ?_
      refine Ev_getI (pc := 43) d_MO_pool_43 rfl rfl rfl fl_MO_74 ?_
      refine Ev_bipush (v := 48) (pc := 46) d_MO_pool_46 (by decide) ?_
      refine Ev_icmp_ge (tgt := 55) (pc := 48) d_MO_pool_48 rfl (fun q17 => ?_) (fun q17 => ?_)
      · refine Ev_iconst (v := 0) (pc := 55) d_MO_pool_55 (by decide) ?_
        rw [f_MO_pool_11] at k
        have j := c_MO_pool_11_56 (E := E) (P := P) (h := h) (x1 := x1) (x2 := x2) hR n3 n4 n5 n6 n7 n8 n9 n10 k
        rw [m_MO_pool_11_56, if_neg q1, if_neg q16, if_pos q17] at j
        exact j
      · refine Ev_iconst (v := 1) (pc := 51) d_MO_pool_51 (by decide) ?_
        refine Ev_goto (tgt := 56) (pc := 52) d_MO_pool_52 rfl ?_
        rw [f_MO_pool_11] at k
        have j := c_MO_pool_11_56 (E := E) (P := P) (h := h) (x1 := x1) (x2 := x2) hR n3 n4 n5 n6 n7 n8 n9 n10 k
        rw [m_MO_pool_11_56, if_neg q1, if_neg q16, if_neg q17] at j
        exact j
def m_MO_pool_10_139 (x1 : Int32) (x2 : Int32) : Int32 := (if x1 = x2 then 1 else 0)
def f_MO_pool_10_139 (h : ev_H) (x1 : Int32) (x2 : Int32) : Int32 × ev_H := (0, (sI h 0 6 0 1))
theorem c_MO_pool_10_139 {E : ev_E} {P : Option ev_V ⊕ Nat → ev_H → Prop} {h : ev_H} {x1 : Int32} {x2 : Int32} (k : P (.inl (some (vI (f_MO_pool_10_139 h x1 x2).1))) (f_MO_pool_10_139 h x1 x2).2) : Ev E M_MO_pool 139 [(0, vR 0 6), (1, vI x1), (2, vI x2), (3, vI 0), (4, vI 0), (5, vI 0)] [vI (m_MO_pool_10_139 x1 x2), vI 1, vR 0 6] h P := by
  refine Ev_iload (pc := 139) d_MO_pool_139 rfl ?_
  refine Ev_if_ne (tgt := 148) (pc := 141) d_MO_pool_141 rfl (fun q => absurd q (by decide)) (fun _ => ?_)
  refine Ev_iconst (v := 1) (pc := 144) d_MO_pool_144 (by decide) ?_
  refine Ev_goto (tgt := 149) (pc := 145) d_MO_pool_145 rfl ?_
  refine Ev_iload (pc := 149) d_MO_pool_149 rfl ?_
  refine Ev_if_ne (tgt := 158) (pc := 151) d_MO_pool_151 rfl (fun q => absurd q (by decide)) (fun _ => ?_)
  refine Ev_iconst (v := 1) (pc := 154) d_MO_pool_154 (by decide) ?_
  refine Ev_goto (tgt := 159) (pc := 155) d_MO_pool_155 rfl ?_
  refine Ev_callV (M' := M_MO_refused) (as := [vI 1, vI (m_MO_pool_10_139 x1 x2), vI 1, vI 1]) (st := []) (a := 0) (i := 6) (pc := 159) d_MO_pool_159 rfl rfl rfl rfl rfl rfl rfl v_MO_refused lk_MO_85 rfl rfl (c_MO_refused1  ?_)
  refine Ev_if_eq (tgt := 167) (pc := 162) d_MO_pool_162 rfl (fun q => absurd q (by decide)) (fun _ => ?_)
  refine Ev_iconst (v := 0) (pc := 165) d_MO_pool_165 (by decide) ?_
  refine Ev_ireturn (pc := 166) d_MO_pool_166 rfl rfl ?_
  rw [f_MO_pool_10_139] at k
  exact k
def f_MO_pool_10 (h : ev_H) (x1 : Int32) (x2 : Int32) : Int32 × ev_H := f_MO_pool_10_139 h x1 x2
theorem c_MO_pool_10 {E : ev_E} {P : Option ev_V ⊕ Nat → ev_H → Prop} {h : ev_H} {x1 : Int32} {x2 : Int32} (v0 : f_MO_isUnit h x1 = 1) (v1 : f_MO_isUnit h x2 = 0) (k : P (.inl (some (vI (f_MO_pool_10 h x1 x2).1))) (f_MO_pool_10 h x1 x2).2) : Ev E M_MO_pool 0 [(0, vR 0 6), (1, vI x1), (2, vI x2)] [] h P := by
  refine Ev_aload_n (pc := 0) d_MO_pool_0 rfl ?_
  refine Ev_iload_n (pc := 1) d_MO_pool_1 rfl ?_
  refine Ev_callV (M' := M_MO_isUnit) (as := [vI x1]) (st := []) (a := 0) (i := 6) (pc := 2) d_MO_pool_2 rfl rfl rfl rfl rfl rfl rfl v_MO_isUnit lk_MO_111 rfl rfl (c_MO_isUnitV (v := 1) v0 ?_)
  refine Ev_if_eq (tgt := 20) (pc := 5) d_MO_pool_5 rfl (fun q => absurd q (by decide)) (fun _ => ?_)
  refine Ev_aload_n (pc := 8) d_MO_pool_8 rfl ?_
  refine Ev_iload_n (pc := 9) d_MO_pool_9 rfl ?_
  refine Ev_callV (M' := M_MO_isUnit) (as := [vI x2]) (st := []) (a := 0) (i := 6) (pc := 10) d_MO_pool_10 rfl rfl rfl rfl rfl rfl rfl v_MO_isUnit lk_MO_111 rfl rfl (c_MO_isUnitV (v := 0) v1 ?_)
  refine Ev_if_eq (tgt := 20) (pc := 13) d_MO_pool_13 rfl (fun _ => ?_) (fun q => absurd q (by decide))
  refine Ev_iconst (v := 0) (pc := 20) d_MO_pool_20 (by decide) ?_
  refine Ev_istore_n (pc := 21) d_MO_pool_21 rfl ?_
  refine Ev_iload_n (pc := 22) d_MO_pool_22 rfl ?_
  refine Ev_if_eq (tgt := 55) (pc := 23) d_MO_pool_23 rfl (fun _ => ?_) (fun q => absurd q (by decide))
  refine Ev_iconst (v := 0) (pc := 55) d_MO_pool_55 (by decide) ?_
  refine Ev_istore (pc := 56) d_MO_pool_56 rfl ?_
  refine Ev_iload_n (pc := 58) d_MO_pool_58 rfl ?_
  refine Ev_if_eq (tgt := 116) (pc := 59) d_MO_pool_59 rfl (fun _ => ?_) (fun q => absurd q (by decide))
  refine Ev_iconst (v := 0) (pc := 116) d_MO_pool_116 (by decide) ?_
  refine Ev_istore (pc := 117) d_MO_pool_117 rfl ?_
  refine Ev_aload_n (pc := 119) d_MO_pool_119 rfl ?_
  refine Ev_iload_n (pc := 120) d_MO_pool_120 rfl ?_
  refine Ev_if_ne (tgt := 128) (pc := 121) d_MO_pool_121 rfl (fun q => absurd q (by decide)) (fun _ => ?_)
  refine Ev_iconst (v := 1) (pc := 124) d_MO_pool_124 (by decide) ?_
  refine Ev_goto (tgt := 129) (pc := 125) d_MO_pool_125 rfl ?_
  refine Ev_iload_n (pc := 129) d_MO_pool_129 rfl ?_
  refine Ev_iload_n (pc := 130) d_MO_pool_130 rfl ?_
  refine Ev_icmp_ne (tgt := 138) (pc := 131) d_MO_pool_131 rfl (fun q1 => ?_) (fun q1 => ?_)
  · refine Ev_iconst (v := 0) (pc := 138) d_MO_pool_138 (by decide) ?_
    rw [f_MO_pool_10] at k
    have j := c_MO_pool_10_139 (E := E) (P := P) (h := h) (x1 := x1) (x2 := x2)  k
    rw [m_MO_pool_10_139, if_neg q1] at j
    exact j
  · refine Ev_iconst (v := 1) (pc := 134) d_MO_pool_134 (by decide) ?_
    refine Ev_goto (tgt := 139) (pc := 135) d_MO_pool_135 rfl ?_
    rw [f_MO_pool_10] at k
    have j := c_MO_pool_10_139 (E := E) (P := P) (h := h) (x1 := x1) (x2 := x2)  k
    rw [m_MO_pool_10_139, if_pos q1] at j
    exact j
def m_MO_pool_0_139 (x1 : Int32) (x2 : Int32) : Int32 := (if x1 = x2 then 1 else 0)
def f_MO_pool_0_139 (h : ev_H) (x1 : Int32) (x2 : Int32) : Int32 × ev_H := (0, (sI h 0 6 0 1))
theorem c_MO_pool_0_139 {E : ev_E} {P : Option ev_V ⊕ Nat → ev_H → Prop} {h : ev_H} {x1 : Int32} {x2 : Int32} (k : P (.inl (some (vI (f_MO_pool_0_139 h x1 x2).1))) (f_MO_pool_0_139 h x1 x2).2) : Ev E M_MO_pool 139 [(0, vR 0 6), (1, vI x1), (2, vI x2), (3, vI 0), (4, vI 0), (5, vI 0)] [vI (m_MO_pool_0_139 x1 x2), vI 1, vR 0 6] h P := by
  refine Ev_iload (pc := 139) d_MO_pool_139 rfl ?_
  refine Ev_if_ne (tgt := 148) (pc := 141) d_MO_pool_141 rfl (fun q => absurd q (by decide)) (fun _ => ?_)
  refine Ev_iconst (v := 1) (pc := 144) d_MO_pool_144 (by decide) ?_
  refine Ev_goto (tgt := 149) (pc := 145) d_MO_pool_145 rfl ?_
  refine Ev_iload (pc := 149) d_MO_pool_149 rfl ?_
  refine Ev_if_ne (tgt := 158) (pc := 151) d_MO_pool_151 rfl (fun q => absurd q (by decide)) (fun _ => ?_)
  refine Ev_iconst (v := 1) (pc := 154) d_MO_pool_154 (by decide) ?_
  refine Ev_goto (tgt := 159) (pc := 155) d_MO_pool_155 rfl ?_
  refine Ev_callV (M' := M_MO_refused) (as := [vI 1, vI (m_MO_pool_0_139 x1 x2), vI 1, vI 1]) (st := []) (a := 0) (i := 6) (pc := 159) d_MO_pool_159 rfl rfl rfl rfl rfl rfl rfl v_MO_refused lk_MO_85 rfl rfl (c_MO_refused1  ?_)
  refine Ev_if_eq (tgt := 167) (pc := 162) d_MO_pool_162 rfl (fun q => absurd q (by decide)) (fun _ => ?_)
  refine Ev_iconst (v := 0) (pc := 165) d_MO_pool_165 (by decide) ?_
  refine Ev_ireturn (pc := 166) d_MO_pool_166 rfl rfl ?_
  rw [f_MO_pool_0_139] at k
  exact k
def f_MO_pool_0 (h : ev_H) (x1 : Int32) (x2 : Int32) : Int32 × ev_H := f_MO_pool_0_139 h x1 x2
theorem c_MO_pool_0 {E : ev_E} {P : Option ev_V ⊕ Nat → ev_H → Prop} {h : ev_H} {x1 : Int32} {x2 : Int32} (v0 : f_MO_isUnit h x1 = 0) (k : P (.inl (some (vI (f_MO_pool_0 h x1 x2).1))) (f_MO_pool_0 h x1 x2).2) : Ev E M_MO_pool 0 [(0, vR 0 6), (1, vI x1), (2, vI x2)] [] h P := by
  refine Ev_aload_n (pc := 0) d_MO_pool_0 rfl ?_
  refine Ev_iload_n (pc := 1) d_MO_pool_1 rfl ?_
  refine Ev_callV (M' := M_MO_isUnit) (as := [vI x1]) (st := []) (a := 0) (i := 6) (pc := 2) d_MO_pool_2 rfl rfl rfl rfl rfl rfl rfl v_MO_isUnit lk_MO_111 rfl rfl (c_MO_isUnitV (v := 0) v0 ?_)
  refine Ev_if_eq (tgt := 20) (pc := 5) d_MO_pool_5 rfl (fun _ => ?_) (fun q => absurd q (by decide))
  refine Ev_iconst (v := 0) (pc := 20) d_MO_pool_20 (by decide) ?_
  refine Ev_istore_n (pc := 21) d_MO_pool_21 rfl ?_
  refine Ev_iload_n (pc := 22) d_MO_pool_22 rfl ?_
  refine Ev_if_eq (tgt := 55) (pc := 23) d_MO_pool_23 rfl (fun _ => ?_) (fun q => absurd q (by decide))
  refine Ev_iconst (v := 0) (pc := 55) d_MO_pool_55 (by decide) ?_
  refine Ev_istore (pc := 56) d_MO_pool_56 rfl ?_
  refine Ev_iload_n (pc := 58) d_MO_pool_58 rfl ?_
  refine Ev_if_eq (tgt := 116) (pc := 59) d_MO_pool_59 rfl (fun _ => ?_) (fun q => absurd q (by decide))
  refine Ev_iconst (v := 0) (pc := 116) d_MO_pool_116 (by decide) ?_
  refine Ev_istore (pc := 117) d_MO_pool_117 rfl ?_
  refine Ev_aload_n (pc := 119) d_MO_pool_119 rfl ?_
  refine Ev_iload_n (pc := 120) d_MO_pool_120 rfl ?_
  refine Ev_if_ne (tgt := 128) (pc := 121) d_MO_pool_121 rfl (fun q => absurd q (by decide)) (fun _ => ?_)
  refine Ev_iconst (v := 1) (pc := 124) d_MO_pool_124 (by decide) ?_
  refine Ev_goto (tgt := 129) (pc := 125) d_MO_pool_125 rfl ?_
  refine Ev_iload_n (pc := 129) d_MO_pool_129 rfl ?_
  refine Ev_iload_n (pc := 130) d_MO_pool_130 rfl ?_
  refine Ev_icmp_ne (tgt := 138) (pc := 131) d_MO_pool_131 rfl (fun q1 => ?_) (fun q1 => ?_)
  · refine Ev_iconst (v := 0) (pc := 138) d_MO_pool_138 (by decide) ?_
    rw [f_MO_pool_0] at k
    have j := c_MO_pool_0_139 (E := E) (P := P) (h := h) (x1 := x1) (x2 := x2)  k
    rw [m_MO_pool_0_139, if_neg q1] at j
    exact j
  · refine Ev_iconst (v := 1) (pc := 134) d_MO_pool_134 (by decide) ?_
    refine Ev_goto (tgt := 139) (pc := 135) d_MO_pool_135 rfl ?_
    rw [f_MO_pool_0] at k
    have j := c_MO_pool_0_139 (E := E) (P := P) (h := h) (x1 := x1) (x2 := x2)  k
    rw [m_MO_pool_0_139, if_pos q1] at j
    exact j
def m_MO_sample_1_41 (x1 : Int32) (x2 : Int32) (x3 : Int32) : Int32 := (if (f_MO_in x2 0 3) = 0 then 1 else (if (f_MO_in x3 0 1) = 0 then 1 else 0))
def m_MO_sample_1_61 (h : ev_H) (x1 : Int32) (x2 : Int32) (x3 : Int32) : Int32 := (if (gI h 0 23 x1.toNatClampNeg) = 2 then 1 else 0)
def m_MO_sample_1_111 (h : ev_H) (x1 : Int32) (x2 : Int32) (x3 : Int32) : Int32 := (if 0 ≤ (gI ((f_MO_refused h 0 (m_MO_sample_1_41 x1 x2 x3) (m_MO_sample_1_61 h x1 x2 x3) 0).2) 0 21 x1.toNatClampNeg) then (if (gI ((f_MO_refused h 0 (m_MO_sample_1_41 x1 x2 x3) (m_MO_sample_1_61 h x1 x2 x3) 0).2) 0 21 x1.toNatClampNeg) = ((2 * x2) + x3) then 1 else 2) else 0)
def hp_MO_sample_1_120 (h : ev_H) (x1 : Int32) (x2 : Int32) (x3 : Int32) : ev_H := sI (sI ((f_MO_refused h 0 (m_MO_sample_1_41 x1 x2 x3) (m_MO_sample_1_61 h x1 x2 x3) 0).2) 0 23 x1.toNatClampNeg (m_MO_sample_1_111 h x1 x2 x3)) 0 21 x1.toNatClampNeg ((2 * x2) + x3)
def f_MO_sample_1_111 (h : ev_H) (x1 : Int32) (x2 : Int32) (x3 : Int32) : Int32 × ev_H := ((gI (sI (hp_MO_sample_1_120 h x1 x2 x3) 0 22 x1.toNatClampNeg (gI (hp_MO_sample_1_120 h x1 x2 x3) 0 6 1)) 0 23 x1.toNatClampNeg), (sI (hp_MO_sample_1_120 h x1 x2 x3) 0 22 x1.toNatClampNeg (gI (hp_MO_sample_1_120 h x1 x2 x3) 0 6 1)))
theorem c_MO_sample_1_111 {E : ev_E} {P : Option ev_V ⊕ Nat → ev_H → Prop} {h : ev_H} {x1 : Int32} {x2 : Int32} {x3 : Int32} (n1 : ¬ x1 < 0) (n2 : x1.toNatClampNeg < 10) (hR : rfs h) (k : P (.inl (some (vI (f_MO_sample_1_111 h x1 x2 x3).1))) (f_MO_sample_1_111 h x1 x2 x3).2) : Ev E M_MO_sample 111 [(0, vR 0 6), (1, vI x1), (2, vI x2), (3, vI x3), (4, vI 1), (5, vI ((2 * x2) + x3))] [vI (m_MO_sample_1_111 h x1 x2 x3), vI x1, vR 0 23] ((f_MO_refused h 0 (m_MO_sample_1_41 x1 x2 x3) (m_MO_sample_1_61 h x1 x2 x3) 0).2) P := by
  refine Ev_iast (pc := 111) d_MO_sample_111 rfl rfl n1 n2 ?_
  refine Ev_aload_n (pc := 112) d_MO_sample_112 rfl ?_
  refine Ev_getR (pc := 113) d_MO_sample_113 rfl rfl rfl fl_MO_52 (rf_MO_20 hR) ?_
  refine Ev_iload_n (pc := 116) d_MO_sample_116 rfl ?_
  refine Ev_iload (pc := 117) d_MO_sample_117 rfl ?_
  refine Ev_iast (pc := 119) d_MO_sample_119 rfl rfl n1 n2 ?_
  show Ev E M_MO_sample 120 [(0, vR 0 6), (1, vI x1), (2, vI x2), (3, vI x3), (4, vI 1), (5, vI ((2 * x2) + x3))] [] (hp_MO_sample_1_120 h x1 x2 x3) P
  refine Ev_aload_n (pc := 120) d_MO_sample_120 rfl ?_
  refine Ev_getR (pc := 121) d_MO_sample_121 rfl rfl rfl fl_MO_55 (rf_MO_21 hR) ?_
  refine Ev_iload_n (pc := 124) d_MO_sample_124 rfl ?_
  refine Ev_aload_n (pc := 125) d_MO_sample_125 rfl ?_
  refine Ev_getI (pc := 126) d_MO_sample_126 rfl rfl rfl fl_MO_89 ?_
  refine Ev_iast (pc := 129) d_MO_sample_129 rfl rfl n1 n2 ?_
  refine Ev_aload_n (pc := 130) d_MO_sample_130 rfl ?_
  refine Ev_getR (pc := 131) d_MO_sample_131 rfl rfl rfl fl_MO_58 (rf_MO_22 hR) ?_
  refine Ev_iload_n (pc := 134) d_MO_sample_134 rfl ?_
  refine Ev_iald (pc := 135) d_MO_sample_135 rfl rfl n1 n2 ?_
  refine Ev_ireturn (pc := 136) d_MO_sample_136 rfl rfl ?_
  rw [f_MO_sample_1_111] at k
  exact k
def f_MO_sample_1_61 (h : ev_H) (x1 : Int32) (x2 : Int32) (x3 : Int32) : Int32 × ev_H := ((if ((f_MO_refused h 0 (m_MO_sample_1_41 x1 x2 x3) (m_MO_sample_1_61 h x1 x2 x3) 0).1) = 0 then (f_MO_sample_1_111 h x1 x2 x3).1 else 0), (if ((f_MO_refused h 0 (m_MO_sample_1_41 x1 x2 x3) (m_MO_sample_1_61 h x1 x2 x3) 0).1) = 0 then (f_MO_sample_1_111 h x1 x2 x3).2 else ((f_MO_refused h 0 (m_MO_sample_1_41 x1 x2 x3) (m_MO_sample_1_61 h x1 x2 x3) 0).2)))
theorem c_MO_sample_1_61 {E : ev_E} {P : Option ev_V ⊕ Nat → ev_H → Prop} {h : ev_H} {x1 : Int32} {x2 : Int32} {x3 : Int32} (hR : rfs h) (n1 : ¬ x1 < 0) (n2 : x1.toNatClampNeg < 10) (k : P (.inl (some (vI (f_MO_sample_1_61 h x1 x2 x3).1))) (f_MO_sample_1_61 h x1 x2 x3).2) : Ev E M_MO_sample 61 [(0, vR 0 6), (1, vI x1), (2, vI x2), (3, vI x3), (4, vI 1)] [vI (m_MO_sample_1_61 h x1 x2 x3), vI (m_MO_sample_1_41 x1 x2 x3), vI 0, vR 0 6] h P := by
  refine Ev_iconst (v := 0) (pc := 61) d_MO_sample_61 (by decide) ?_
  refine Ev_callV (M' := M_MO_refused) (as := [vI 0, vI (m_MO_sample_1_41 x1 x2 x3), vI (m_MO_sample_1_61 h x1 x2 x3), vI 0]) (st := []) (a := 0) (i := 6) (pc := 62) d_MO_sample_62 rfl rfl rfl rfl rfl rfl rfl v_MO_refused lk_MO_85 rfl rfl (c_MO_refused  ?_)
  refine Ev_if_eq (tgt := 70) (pc := 65) d_MO_sample_65 rfl (fun q4 => ?_) (fun q4 => ?_)
  · refine Ev_iconst (v := 2) (pc := 70) d_MO_sample_70 (by decide) ?_
    refine Ev_iload_n (pc := 71) d_MO_sample_71 rfl ?_
    refine Ev_imul (pc := 72) d_MO_sample_72 ?_
    refine Ev_iload_n (pc := 73) d_MO_sample_73 rfl ?_
    refine Ev_iadd (pc := 74) d_MO_sample_74 ?_
    refine Ev_istore (pc := 75) d_MO_sample_75 rfl ?_
    refine Ev_aload_n (pc := 77) d_MO_sample_77 rfl ?_
    refine Ev_getR (pc := 78) d_MO_sample_78 rfl rfl rfl fl_MO_58 (rf_MO_22 hR) ?_
    refine Ev_iload_n (pc := 81) d_MO_sample_81 rfl ?_
    refine Ev_aload_n (pc := 82) d_MO_sample_82 rfl ?_
    refine Ev_getR (pc := 83) d_MO_sample_83 rfl rfl rfl fl_MO_52 (rf_MO_20 hR) ?_
    refine Ev_iload_n (pc := 86) d_MO_sample_86 rfl ?_
    refine Ev_iald (pc := 87) d_MO_sample_87 rfl rfl n1 n2 ?_
    refine Ev_if_ge (tgt := 95) (pc := 88) d_MO_sample_88 rfl (fun q5 => ?_) (fun q5 => ?_)
    · refine Ev_aload_n (pc := 95) d_MO_sample_95 rfl ?_
      refine Ev_getR (pc := 96) d_MO_sample_96 rfl rfl rfl fl_MO_52 (rf_MO_20 hR) ?_
      refine Ev_iload_n (pc := 99) d_MO_sample_99 rfl ?_
      refine Ev_iald (pc := 100) d_MO_sample_100 rfl rfl n1 n2 ?_
      refine Ev_iload (pc := 101) d_MO_sample_101 rfl ?_
      refine Ev_icmp_ne (tgt := 110) (pc := 103) d_MO_sample_103 rfl (fun q7 => ?_) (fun q7 => ?_)
      · refine Ev_iconst (v := 2) (pc := 110) d_MO_sample_110 (by decide) ?_
        simp only [f_MO_sample_1_61, if_pos q4] at k
        have j := c_MO_sample_1_111 (E := E) (P := P) (h := h) (x1 := x1) (x2 := x2) (x3 := x3) n1 n2 hR k
        rw [m_MO_sample_1_111, if_pos q5, if_neg q7] at j
        exact j
      · refine Ev_iconst (v := 1) (pc := 106) d_MO_sample_106 (by decide) ?_
        refine Ev_goto (tgt := 111) (pc := 107) d_MO_sample_107 rfl ?_
        simp only [f_MO_sample_1_61, if_pos q4] at k
        have j := c_MO_sample_1_111 (E := E) (P := P) (h := h) (x1 := x1) (x2 := x2) (x3 := x3) n1 n2 hR k
        rw [m_MO_sample_1_111, if_pos q5, if_pos q7] at j
        exact j
    · refine Ev_iconst (v := 0) (pc := 91) d_MO_sample_91 (by decide) ?_
      refine Ev_goto (tgt := 111) (pc := 92) d_MO_sample_92 rfl ?_
      simp only [f_MO_sample_1_61, if_pos q4] at k
      have j := c_MO_sample_1_111 (E := E) (P := P) (h := h) (x1 := x1) (x2 := x2) (x3 := x3) n1 n2 hR k
      rw [m_MO_sample_1_111, if_neg q5] at j
      exact j
  · refine Ev_iconst (v := 0) (pc := 68) d_MO_sample_68 (by decide) ?_
    refine Ev_ireturn (pc := 69) d_MO_sample_69 rfl rfl ?_
    simp only [f_MO_sample_1_61, if_neg q4] at k
    exact k
def f_MO_sample_1_41 (h : ev_H) (x1 : Int32) (x2 : Int32) (x3 : Int32) : Int32 × ev_H := f_MO_sample_1_61 h x1 x2 x3
theorem c_MO_sample_1_41 {E : ev_E} {P : Option ev_V ⊕ Nat → ev_H → Prop} {h : ev_H} {x1 : Int32} {x2 : Int32} {x3 : Int32} (hR : rfs h) (n1 : ¬ x1 < 0) (n2 : x1.toNatClampNeg < 10) (k : P (.inl (some (vI (f_MO_sample_1_41 h x1 x2 x3).1))) (f_MO_sample_1_41 h x1 x2 x3).2) : Ev E M_MO_sample 41 [(0, vR 0 6), (1, vI x1), (2, vI x2), (3, vI x3), (4, vI 1)] [vI (m_MO_sample_1_41 x1 x2 x3), vI 0, vR 0 6] h P := by
  refine Ev_iload (pc := 41) d_MO_sample_41 rfl ?_
  refine Ev_if_eq (tgt := 60) (pc := 43) d_MO_sample_43 rfl (fun q => absurd q (by decide)) (fun _ => ?_)
  refine Ev_aload_n (pc := 46) d_MO_sample_46 rfl ?_
  refine Ev_getR (pc := 47) d_MO_sample_47 rfl rfl rfl fl_MO_58 (rf_MO_22 hR) ?_
  refine Ev_iload_n (pc := 50) d_MO_sample_50 rfl ?_
  refine Ev_iald (pc := 51) d_MO_sample_51 rfl rfl n1 n2 ?_
  refine Ev_iconst (v := 2) (pc := 52) d_MO_sample_52 (by decide) ?_
  refine Ev_icmp_ne (tgt := 60) (pc := 53) d_MO_sample_53 rfl (fun q3 => ?_) (fun q3 => ?_)
  · refine Ev_iconst (v := 0) (pc := 60) d_MO_sample_60 (by decide) ?_
    rw [f_MO_sample_1_41] at k
    have j := c_MO_sample_1_61 (E := E) (P := P) (h := h) (x1 := x1) (x2 := x2) (x3 := x3) hR n1 n2 k
    rw [m_MO_sample_1_61, if_neg q3] at j
    exact j
  · refine Ev_iconst (v := 1) (pc := 56) d_MO_sample_56 (by decide) ?_
    refine Ev_goto (tgt := 61) (pc := 57) d_MO_sample_57 rfl ?_
    rw [f_MO_sample_1_41] at k
    have j := c_MO_sample_1_61 (E := E) (P := P) (h := h) (x1 := x1) (x2 := x2) (x3 := x3) hR n1 n2 k
    rw [m_MO_sample_1_61, if_pos q3] at j
    exact j
def f_MO_sample_1 (h : ev_H) (x1 : Int32) (x2 : Int32) (x3 : Int32) : Int32 × ev_H := f_MO_sample_1_41 h x1 x2 x3
theorem c_MO_sample_1 {E : ev_E} {P : Option ev_V ⊕ Nat → ev_H → Prop} {h : ev_H} {x1 : Int32} {x2 : Int32} {x3 : Int32} (v0 : f_MO_isPatient h x1 = 1) (hR : rfs h) (n2 : ¬ x1 < 0) (n3 : x1.toNatClampNeg < 10) (k : P (.inl (some (vI (f_MO_sample_1 h x1 x2 x3).1))) (f_MO_sample_1 h x1 x2 x3).2) : Ev E M_MO_sample 0 [(0, vR 0 6), (1, vI x1), (2, vI x2), (3, vI x3)] [] h P := by
  refine Ev_aload_n (pc := 0) d_MO_sample_0 rfl ?_
  refine Ev_iload_n (pc := 1) d_MO_sample_1 rfl ?_
  refine Ev_callV (M' := M_MO_isPatient) (as := [vI x1]) (st := []) (a := 0) (i := 6) (pc := 2) d_MO_sample_2 rfl rfl rfl rfl rfl rfl rfl v_MO_isPatient lk_MO_121 rfl rfl (c_MO_isPatientV (v := 1) v0 ?_)
  refine Ev_istore (pc := 5) d_MO_sample_5 rfl ?_
  refine Ev_aload_n (pc := 7) d_MO_sample_7 rfl ?_
  refine Ev_iload (pc := 8) d_MO_sample_8 rfl ?_
  refine Ev_if_ne (tgt := 17) (pc := 10) d_MO_sample_10 rfl (fun _ => ?_) (fun q => absurd q (by decide))
  refine Ev_iconst (v := 0) (pc := 17) d_MO_sample_17 (by decide) ?_
  refine Ev_iload_n (pc := 18) d_MO_sample_18 rfl ?_
  refine Ev_iconst (v := 0) (pc := 19) d_MO_sample_19 (by decide) ?_
  refine Ev_iconst (v := 3) (pc := 20) d_MO_sample_20 (by decide) ?_
  refine Ev_callS (M' := M_MO_in) (as := [vI x2, vI 0, vI 3]) (st := [vI 0, vR 0 6]) (pc := 21) d_MO_sample_21 rfl rfl rfl s_MO_in lk_MO_77 rfl rfl (c_MO_in  ?_)
  refine Ev_if_eq (tgt := 36) (pc := 24) d_MO_sample_24 rfl (fun q1 => ?_) (fun q1 => ?_)
  · refine Ev_iconst (v := 1) (pc := 36) d_MO_sample_36 (by decide) ?_
    refine Ev_goto (tgt := 41) (pc := 37) d_MO_sample_37 rfl ?_
    rw [f_MO_sample_1] at k
    have j := c_MO_sample_1_41 (E := E) (P := P) (h := h) (x1 := x1) (x2 := x2) (x3 := x3) hR n2 n3 k
    rw [m_MO_sample_1_41, if_pos q1] at j
    exact j
  · refine Ev_iload_n (pc := 27) d_MO_sample_27 rfl ?_
    refine Ev_iconst (v := 0) (pc := 28) d_MO_sample_28 (by decide) ?_
    refine Ev_iconst (v := 1) (pc := 29) d_MO_sample_29 (by decide) ?_
    refine Ev_callS (M' := M_MO_in) (as := [vI x3, vI 0, vI 1]) (st := [vI 0, vR 0 6]) (pc := 30) d_MO_sample_30 rfl rfl rfl s_MO_in lk_MO_77 rfl rfl (c_MO_in  ?_)
    refine Ev_if_ne (tgt := 40) (pc := 33) d_MO_sample_33 rfl (fun q8 => ?_) (fun q8 => ?_)
    · refine Ev_iconst (v := 0) (pc := 40) d_MO_sample_40 (by decide) ?_
      rw [f_MO_sample_1] at k
      have j := c_MO_sample_1_41 (E := E) (P := P) (h := h) (x1 := x1) (x2 := x2) (x3 := x3) hR n2 n3 k
      rw [m_MO_sample_1_41, if_neg q1, if_neg q8] at j
      exact j
    · refine Ev_iconst (v := 1) (pc := 36) d_MO_sample_36 (by decide) ?_
      refine Ev_goto (tgt := 41) (pc := 37) d_MO_sample_37 rfl ?_
      rw [f_MO_sample_1] at k
      have j := c_MO_sample_1_41 (E := E) (P := P) (h := h) (x1 := x1) (x2 := x2) (x3 := x3) hR n2 n3 k
      rw [m_MO_sample_1_41, if_neg q1, if_pos q8] at j
      exact j
def m_MO_sample_0_41 (x1 : Int32) (x2 : Int32) (x3 : Int32) : Int32 := (if (f_MO_in x2 0 3) = 0 then 1 else (if (f_MO_in x3 0 1) = 0 then 1 else 0))
def f_MO_sample_0_41 (h : ev_H) (x1 : Int32) (x2 : Int32) (x3 : Int32) : Int32 × ev_H := (0, (sI h 0 6 0 1))
theorem c_MO_sample_0_41 {E : ev_E} {P : Option ev_V ⊕ Nat → ev_H → Prop} {h : ev_H} {x1 : Int32} {x2 : Int32} {x3 : Int32} (k : P (.inl (some (vI (f_MO_sample_0_41 h x1 x2 x3).1))) (f_MO_sample_0_41 h x1 x2 x3).2) : Ev E M_MO_sample 41 [(0, vR 0 6), (1, vI x1), (2, vI x2), (3, vI x3), (4, vI 0)] [vI (m_MO_sample_0_41 x1 x2 x3), vI 1, vR 0 6] h P := by
  refine Ev_iload (pc := 41) d_MO_sample_41 rfl ?_
  refine Ev_if_eq (tgt := 60) (pc := 43) d_MO_sample_43 rfl (fun _ => ?_) (fun q => absurd q (by decide))
  refine Ev_iconst (v := 0) (pc := 60) d_MO_sample_60 (by decide) ?_
  refine Ev_iconst (v := 0) (pc := 61) d_MO_sample_61 (by decide) ?_
  refine Ev_callV (M' := M_MO_refused) (as := [vI 1, vI (m_MO_sample_0_41 x1 x2 x3), vI 0, vI 0]) (st := []) (a := 0) (i := 6) (pc := 62) d_MO_sample_62 rfl rfl rfl rfl rfl rfl rfl v_MO_refused lk_MO_85 rfl rfl (c_MO_refused1  ?_)
  refine Ev_if_eq (tgt := 70) (pc := 65) d_MO_sample_65 rfl (fun q => absurd q (by decide)) (fun _ => ?_)
  refine Ev_iconst (v := 0) (pc := 68) d_MO_sample_68 (by decide) ?_
  refine Ev_ireturn (pc := 69) d_MO_sample_69 rfl rfl ?_
  rw [f_MO_sample_0_41] at k
  exact k
def f_MO_sample_0 (h : ev_H) (x1 : Int32) (x2 : Int32) (x3 : Int32) : Int32 × ev_H := f_MO_sample_0_41 h x1 x2 x3
theorem c_MO_sample_0 {E : ev_E} {P : Option ev_V ⊕ Nat → ev_H → Prop} {h : ev_H} {x1 : Int32} {x2 : Int32} {x3 : Int32} (v0 : f_MO_isPatient h x1 = 0) (k : P (.inl (some (vI (f_MO_sample_0 h x1 x2 x3).1))) (f_MO_sample_0 h x1 x2 x3).2) : Ev E M_MO_sample 0 [(0, vR 0 6), (1, vI x1), (2, vI x2), (3, vI x3)] [] h P := by
  refine Ev_aload_n (pc := 0) d_MO_sample_0 rfl ?_
  refine Ev_iload_n (pc := 1) d_MO_sample_1 rfl ?_
  refine Ev_callV (M' := M_MO_isPatient) (as := [vI x1]) (st := []) (a := 0) (i := 6) (pc := 2) d_MO_sample_2 rfl rfl rfl rfl rfl rfl rfl v_MO_isPatient lk_MO_121 rfl rfl (c_MO_isPatientV (v := 0) v0 ?_)
  refine Ev_istore (pc := 5) d_MO_sample_5 rfl ?_
  refine Ev_aload_n (pc := 7) d_MO_sample_7 rfl ?_
  refine Ev_iload (pc := 8) d_MO_sample_8 rfl ?_
  refine Ev_if_ne (tgt := 17) (pc := 10) d_MO_sample_10 rfl (fun q => absurd q (by decide)) (fun _ => ?_)
  refine Ev_iconst (v := 1) (pc := 13) d_MO_sample_13 (by decide) ?_
  refine Ev_goto (tgt := 18) (pc := 14) d_MO_sample_14 rfl ?_
  refine Ev_iload_n (pc := 18) d_MO_sample_18 rfl ?_
  refine Ev_iconst (v := 0) (pc := 19) d_MO_sample_19 (by decide) ?_
  refine Ev_iconst (v := 3) (pc := 20) d_MO_sample_20 (by decide) ?_
  refine Ev_callS (M' := M_MO_in) (as := [vI x2, vI 0, vI 3]) (st := [vI 1, vR 0 6]) (pc := 21) d_MO_sample_21 rfl rfl rfl s_MO_in lk_MO_77 rfl rfl (c_MO_in  ?_)
  refine Ev_if_eq (tgt := 36) (pc := 24) d_MO_sample_24 rfl (fun q1 => ?_) (fun q1 => ?_)
  · refine Ev_iconst (v := 1) (pc := 36) d_MO_sample_36 (by decide) ?_
    refine Ev_goto (tgt := 41) (pc := 37) d_MO_sample_37 rfl ?_
    rw [f_MO_sample_0] at k
    have j := c_MO_sample_0_41 (E := E) (P := P) (h := h) (x1 := x1) (x2 := x2) (x3 := x3)  k
    rw [m_MO_sample_0_41, if_pos q1] at j
    exact j
  · refine Ev_iload_n (pc := 27) d_MO_sample_27 rfl ?_
    refine Ev_iconst (v := 0) (pc := 28) d_MO_sample_28 (by decide) ?_
    refine Ev_iconst (v := 1) (pc := 29) d_MO_sample_29 (by decide) ?_
    refine Ev_callS (M' := M_MO_in) (as := [vI x3, vI 0, vI 1]) (st := [vI 1, vR 0 6]) (pc := 30) d_MO_sample_30 rfl rfl rfl s_MO_in lk_MO_77 rfl rfl (c_MO_in  ?_)
    refine Ev_if_ne (tgt := 40) (pc := 33) d_MO_sample_33 rfl (fun q3 => ?_) (fun q3 => ?_)
    · refine Ev_iconst (v := 0) (pc := 40) d_MO_sample_40 (by decide) ?_
      rw [f_MO_sample_0] at k
      have j := c_MO_sample_0_41 (E := E) (P := P) (h := h) (x1 := x1) (x2 := x2) (x3 := x3)  k
      rw [m_MO_sample_0_41, if_neg q1, if_neg q3] at j
      exact j
    · refine Ev_iconst (v := 1) (pc := 36) d_MO_sample_36 (by decide) ?_
      refine Ev_goto (tgt := 41) (pc := 37) d_MO_sample_37 rfl ?_
      rw [f_MO_sample_0] at k
      have j := c_MO_sample_0_41 (E := E) (P := P) (h := h) (x1 := x1) (x2 := x2) (x3 := x3)  k
      rw [m_MO_sample_0_41, if_neg q1, if_pos q3] at j
      exact j
def m_MO_unlock_1_41 (x1 : Int32) (x2 : Int32) (x3 : Int32) : Int32 := (if (f_MO_in x2 0 3) = 0 then 1 else (if (f_MO_in x3 0 1) = 0 then 1 else 0))
def m_MO_unlock_1_61 (h : ev_H) (x1 : Int32) (x2 : Int32) (x3 : Int32) : Int32 := (if (gI h 0 23 x1.toNatClampNeg) = 2 then 0 else 1)
def hp_MO_unlock_1_87 (h : ev_H) (x1 : Int32) (x2 : Int32) (x3 : Int32) : ev_H := sI (sI ((f_MO_refused h 0 (m_MO_unlock_1_41 x1 x2 x3) (m_MO_unlock_1_61 h x1 x2 x3) 0).2) 0 21 x1.toNatClampNeg ((2 * x2) + x3)) 0 23 x1.toNatClampNeg 1
def f_MO_unlock_1_61 (h : ev_H) (x1 : Int32) (x2 : Int32) (x3 : Int32) : ev_H := (if ((f_MO_refused h 0 (m_MO_unlock_1_41 x1 x2 x3) (m_MO_unlock_1_61 h x1 x2 x3) 0).1) = 0 then (hp_MO_unlock_1_87 h x1 x2 x3) else ((f_MO_refused h 0 (m_MO_unlock_1_41 x1 x2 x3) (m_MO_unlock_1_61 h x1 x2 x3) 0).2))
theorem c_MO_unlock_1_61 {E : ev_E} {P : Option ev_V ⊕ Nat → ev_H → Prop} {h : ev_H} {x1 : Int32} {x2 : Int32} {x3 : Int32} (hR : rfs h) (n1 : ¬ x1 < 0) (n2 : x1.toNatClampNeg < 10) (k : P (.inl none) (f_MO_unlock_1_61 h x1 x2 x3)) : Ev E M_MO_unlock 61 [(0, vR 0 6), (1, vI x1), (2, vI x2), (3, vI x3), (4, vI 1)] [vI (m_MO_unlock_1_61 h x1 x2 x3), vI (m_MO_unlock_1_41 x1 x2 x3), vI 0, vR 0 6] h P := by
  refine Ev_iconst (v := 0) (pc := 61) d_MO_unlock_61 (by decide) ?_
  refine Ev_callV (M' := M_MO_refused) (as := [vI 0, vI (m_MO_unlock_1_41 x1 x2 x3), vI (m_MO_unlock_1_61 h x1 x2 x3), vI 0]) (st := []) (a := 0) (i := 6) (pc := 62) d_MO_unlock_62 rfl rfl rfl rfl rfl rfl rfl v_MO_refused lk_MO_85 rfl rfl (c_MO_refused  ?_)
  refine Ev_if_eq (tgt := 69) (pc := 65) d_MO_unlock_65 rfl (fun q4 => ?_) (fun q4 => ?_)
  · refine Ev_aload_n (pc := 69) d_MO_unlock_69 rfl ?_
    refine Ev_getR (pc := 70) d_MO_unlock_70 rfl rfl rfl fl_MO_52 (rf_MO_20 hR) ?_
    refine Ev_iload_n (pc := 73) d_MO_unlock_73 rfl ?_
    refine Ev_iconst (v := 2) (pc := 74) d_MO_unlock_74 (by decide) ?_
    refine Ev_iload_n (pc := 75) d_MO_unlock_75 rfl ?_
    refine Ev_imul (pc := 76) d_MO_unlock_76 ?_
    refine Ev_iload_n (pc := 77) d_MO_unlock_77 rfl ?_
    refine Ev_iadd (pc := 78) d_MO_unlock_78 ?_
    refine Ev_iast (pc := 79) d_MO_unlock_79 rfl rfl n1 n2 ?_
    refine Ev_aload_n (pc := 80) d_MO_unlock_80 rfl ?_
    refine Ev_getR (pc := 81) d_MO_unlock_81 rfl rfl rfl fl_MO_58 (rf_MO_22 hR) ?_
    refine Ev_iload_n (pc := 84) d_MO_unlock_84 rfl ?_
    refine Ev_iconst (v := 1) (pc := 85) d_MO_unlock_85 (by decide) ?_
    refine Ev_iast (pc := 86) d_MO_unlock_86 rfl rfl n1 n2 ?_
    show Ev E M_MO_unlock 87 [(0, vR 0 6), (1, vI x1), (2, vI x2), (3, vI x3), (4, vI 1)] [] (hp_MO_unlock_1_87 h x1 x2 x3) P
    refine Ev_return (pc := 87) d_MO_unlock_87 rfl ?_
    rw [f_MO_unlock_1_61, if_pos q4] at k
    exact k
  · refine Ev_return (pc := 68) d_MO_unlock_68 rfl ?_
    rw [f_MO_unlock_1_61, if_neg q4] at k
    exact k
def f_MO_unlock_1_41 (h : ev_H) (x1 : Int32) (x2 : Int32) (x3 : Int32) : ev_H := f_MO_unlock_1_61 h x1 x2 x3
theorem c_MO_unlock_1_41 {E : ev_E} {P : Option ev_V ⊕ Nat → ev_H → Prop} {h : ev_H} {x1 : Int32} {x2 : Int32} {x3 : Int32} (hR : rfs h) (n1 : ¬ x1 < 0) (n2 : x1.toNatClampNeg < 10) (k : P (.inl none) (f_MO_unlock_1_41 h x1 x2 x3)) : Ev E M_MO_unlock 41 [(0, vR 0 6), (1, vI x1), (2, vI x2), (3, vI x3), (4, vI 1)] [vI (m_MO_unlock_1_41 x1 x2 x3), vI 0, vR 0 6] h P := by
  refine Ev_iload (pc := 41) d_MO_unlock_41 rfl ?_
  refine Ev_if_eq (tgt := 60) (pc := 43) d_MO_unlock_43 rfl (fun q => absurd q (by decide)) (fun _ => ?_)
  refine Ev_aload_n (pc := 46) d_MO_unlock_46 rfl ?_
  refine Ev_getR (pc := 47) d_MO_unlock_47 rfl rfl rfl fl_MO_58 (rf_MO_22 hR) ?_
  refine Ev_iload_n (pc := 50) d_MO_unlock_50 rfl ?_
  refine Ev_iald (pc := 51) d_MO_unlock_51 rfl rfl n1 n2 ?_
  refine Ev_iconst (v := 2) (pc := 52) d_MO_unlock_52 (by decide) ?_
  refine Ev_icmp_eq (tgt := 60) (pc := 53) d_MO_unlock_53 rfl (fun q3 => ?_) (fun q3 => ?_)
  · refine Ev_iconst (v := 0) (pc := 60) d_MO_unlock_60 (by decide) ?_
    rw [f_MO_unlock_1_41] at k
    have j := c_MO_unlock_1_61 (E := E) (P := P) (h := h) (x1 := x1) (x2 := x2) (x3 := x3) hR n1 n2 k
    rw [m_MO_unlock_1_61, if_pos q3] at j
    exact j
  · refine Ev_iconst (v := 1) (pc := 56) d_MO_unlock_56 (by decide) ?_
    refine Ev_goto (tgt := 61) (pc := 57) d_MO_unlock_57 rfl ?_
    rw [f_MO_unlock_1_41] at k
    have j := c_MO_unlock_1_61 (E := E) (P := P) (h := h) (x1 := x1) (x2 := x2) (x3 := x3) hR n1 n2 k
    rw [m_MO_unlock_1_61, if_neg q3] at j
    exact j
def f_MO_unlock_1 (h : ev_H) (x1 : Int32) (x2 : Int32) (x3 : Int32) : ev_H := f_MO_unlock_1_41 h x1 x2 x3
theorem c_MO_unlock_1 {E : ev_E} {P : Option ev_V ⊕ Nat → ev_H → Prop} {h : ev_H} {x1 : Int32} {x2 : Int32} {x3 : Int32} (v0 : f_MO_isPatient h x1 = 1) (hR : rfs h) (n2 : ¬ x1 < 0) (n3 : x1.toNatClampNeg < 10) (k : P (.inl none) (f_MO_unlock_1 h x1 x2 x3)) : Ev E M_MO_unlock 0 [(0, vR 0 6), (1, vI x1), (2, vI x2), (3, vI x3)] [] h P := by
  refine Ev_aload_n (pc := 0) d_MO_unlock_0 rfl ?_
  refine Ev_iload_n (pc := 1) d_MO_unlock_1 rfl ?_
  refine Ev_callV (M' := M_MO_isPatient) (as := [vI x1]) (st := []) (a := 0) (i := 6) (pc := 2) d_MO_unlock_2 rfl rfl rfl rfl rfl rfl rfl v_MO_isPatient lk_MO_121 rfl rfl (c_MO_isPatientV (v := 1) v0 ?_)
  refine Ev_istore (pc := 5) d_MO_unlock_5 rfl ?_
  refine Ev_aload_n (pc := 7) d_MO_unlock_7 rfl ?_
  refine Ev_iload (pc := 8) d_MO_unlock_8 rfl ?_
  refine Ev_if_ne (tgt := 17) (pc := 10) d_MO_unlock_10 rfl (fun _ => ?_) (fun q => absurd q (by decide))
  refine Ev_iconst (v := 0) (pc := 17) d_MO_unlock_17 (by decide) ?_
  refine Ev_iload_n (pc := 18) d_MO_unlock_18 rfl ?_
  refine Ev_iconst (v := 0) (pc := 19) d_MO_unlock_19 (by decide) ?_
  refine Ev_iconst (v := 3) (pc := 20) d_MO_unlock_20 (by decide) ?_
  refine Ev_callS (M' := M_MO_in) (as := [vI x2, vI 0, vI 3]) (st := [vI 0, vR 0 6]) (pc := 21) d_MO_unlock_21 rfl rfl rfl s_MO_in lk_MO_77 rfl rfl (c_MO_in  ?_)
  refine Ev_if_eq (tgt := 36) (pc := 24) d_MO_unlock_24 rfl (fun q1 => ?_) (fun q1 => ?_)
  · refine Ev_iconst (v := 1) (pc := 36) d_MO_unlock_36 (by decide) ?_
    refine Ev_goto (tgt := 41) (pc := 37) d_MO_unlock_37 rfl ?_
    rw [f_MO_unlock_1] at k
    have j := c_MO_unlock_1_41 (E := E) (P := P) (h := h) (x1 := x1) (x2 := x2) (x3 := x3) hR n2 n3 k
    rw [m_MO_unlock_1_41, if_pos q1] at j
    exact j
  · refine Ev_iload_n (pc := 27) d_MO_unlock_27 rfl ?_
    refine Ev_iconst (v := 0) (pc := 28) d_MO_unlock_28 (by decide) ?_
    refine Ev_iconst (v := 1) (pc := 29) d_MO_unlock_29 (by decide) ?_
    refine Ev_callS (M' := M_MO_in) (as := [vI x3, vI 0, vI 1]) (st := [vI 0, vR 0 6]) (pc := 30) d_MO_unlock_30 rfl rfl rfl s_MO_in lk_MO_77 rfl rfl (c_MO_in  ?_)
    refine Ev_if_ne (tgt := 40) (pc := 33) d_MO_unlock_33 rfl (fun q5 => ?_) (fun q5 => ?_)
    · refine Ev_iconst (v := 0) (pc := 40) d_MO_unlock_40 (by decide) ?_
      rw [f_MO_unlock_1] at k
      have j := c_MO_unlock_1_41 (E := E) (P := P) (h := h) (x1 := x1) (x2 := x2) (x3 := x3) hR n2 n3 k
      rw [m_MO_unlock_1_41, if_neg q1, if_neg q5] at j
      exact j
    · refine Ev_iconst (v := 1) (pc := 36) d_MO_unlock_36 (by decide) ?_
      refine Ev_goto (tgt := 41) (pc := 37) d_MO_unlock_37 rfl ?_
      rw [f_MO_unlock_1] at k
      have j := c_MO_unlock_1_41 (E := E) (P := P) (h := h) (x1 := x1) (x2 := x2) (x3 := x3) hR n2 n3 k
      rw [m_MO_unlock_1_41, if_neg q1, if_pos q5] at j
      exact j
def m_MO_unlock_0_41 (x1 : Int32) (x2 : Int32) (x3 : Int32) : Int32 := (if (f_MO_in x2 0 3) = 0 then 1 else (if (f_MO_in x3 0 1) = 0 then 1 else 0))
def f_MO_unlock_0_41 (h : ev_H) (x1 : Int32) (x2 : Int32) (x3 : Int32) : ev_H := (sI h 0 6 0 1)
theorem c_MO_unlock_0_41 {E : ev_E} {P : Option ev_V ⊕ Nat → ev_H → Prop} {h : ev_H} {x1 : Int32} {x2 : Int32} {x3 : Int32} (k : P (.inl none) (f_MO_unlock_0_41 h x1 x2 x3)) : Ev E M_MO_unlock 41 [(0, vR 0 6), (1, vI x1), (2, vI x2), (3, vI x3), (4, vI 0)] [vI (m_MO_unlock_0_41 x1 x2 x3), vI 1, vR 0 6] h P := by
  refine Ev_iload (pc := 41) d_MO_unlock_41 rfl ?_
  refine Ev_if_eq (tgt := 60) (pc := 43) d_MO_unlock_43 rfl (fun _ => ?_) (fun q => absurd q (by decide))
  refine Ev_iconst (v := 0) (pc := 60) d_MO_unlock_60 (by decide) ?_
  refine Ev_iconst (v := 0) (pc := 61) d_MO_unlock_61 (by decide) ?_
  refine Ev_callV (M' := M_MO_refused) (as := [vI 1, vI (m_MO_unlock_0_41 x1 x2 x3), vI 0, vI 0]) (st := []) (a := 0) (i := 6) (pc := 62) d_MO_unlock_62 rfl rfl rfl rfl rfl rfl rfl v_MO_refused lk_MO_85 rfl rfl (c_MO_refused1  ?_)
  refine Ev_if_eq (tgt := 69) (pc := 65) d_MO_unlock_65 rfl (fun q => absurd q (by decide)) (fun _ => ?_)
  refine Ev_return (pc := 68) d_MO_unlock_68 rfl ?_
  rw [f_MO_unlock_0_41] at k
  exact k
def f_MO_unlock_0 (h : ev_H) (x1 : Int32) (x2 : Int32) (x3 : Int32) : ev_H := f_MO_unlock_0_41 h x1 x2 x3
theorem c_MO_unlock_0 {E : ev_E} {P : Option ev_V ⊕ Nat → ev_H → Prop} {h : ev_H} {x1 : Int32} {x2 : Int32} {x3 : Int32} (v0 : f_MO_isPatient h x1 = 0) (k : P (.inl none) (f_MO_unlock_0 h x1 x2 x3)) : Ev E M_MO_unlock 0 [(0, vR 0 6), (1, vI x1), (2, vI x2), (3, vI x3)] [] h P := by
  refine Ev_aload_n (pc := 0) d_MO_unlock_0 rfl ?_
  refine Ev_iload_n (pc := 1) d_MO_unlock_1 rfl ?_
  refine Ev_callV (M' := M_MO_isPatient) (as := [vI x1]) (st := []) (a := 0) (i := 6) (pc := 2) d_MO_unlock_2 rfl rfl rfl rfl rfl rfl rfl v_MO_isPatient lk_MO_121 rfl rfl (c_MO_isPatientV (v := 0) v0 ?_)
  refine Ev_istore (pc := 5) d_MO_unlock_5 rfl ?_
  refine Ev_aload_n (pc := 7) d_MO_unlock_7 rfl ?_
  refine Ev_iload (pc := 8) d_MO_unlock_8 rfl ?_
  refine Ev_if_ne (tgt := 17) (pc := 10) d_MO_unlock_10 rfl (fun q => absurd q (by decide)) (fun _ => ?_)
  refine Ev_iconst (v := 1) (pc := 13) d_MO_unlock_13 (by decide) ?_
  refine Ev_goto (tgt := 18) (pc := 14) d_MO_unlock_14 rfl ?_
  refine Ev_iload_n (pc := 18) d_MO_unlock_18 rfl ?_
  refine Ev_iconst (v := 0) (pc := 19) d_MO_unlock_19 (by decide) ?_
  refine Ev_iconst (v := 3) (pc := 20) d_MO_unlock_20 (by decide) ?_
  refine Ev_callS (M' := M_MO_in) (as := [vI x2, vI 0, vI 3]) (st := [vI 1, vR 0 6]) (pc := 21) d_MO_unlock_21 rfl rfl rfl s_MO_in lk_MO_77 rfl rfl (c_MO_in  ?_)
  refine Ev_if_eq (tgt := 36) (pc := 24) d_MO_unlock_24 rfl (fun q1 => ?_) (fun q1 => ?_)
  · refine Ev_iconst (v := 1) (pc := 36) d_MO_unlock_36 (by decide) ?_
    refine Ev_goto (tgt := 41) (pc := 37) d_MO_unlock_37 rfl ?_
    rw [f_MO_unlock_0] at k
    have j := c_MO_unlock_0_41 (E := E) (P := P) (h := h) (x1 := x1) (x2 := x2) (x3 := x3)  k
    rw [m_MO_unlock_0_41, if_pos q1] at j
    exact j
  · refine Ev_iload_n (pc := 27) d_MO_unlock_27 rfl ?_
    refine Ev_iconst (v := 0) (pc := 28) d_MO_unlock_28 (by decide) ?_
    refine Ev_iconst (v := 1) (pc := 29) d_MO_unlock_29 (by decide) ?_
    refine Ev_callS (M' := M_MO_in) (as := [vI x3, vI 0, vI 1]) (st := [vI 1, vR 0 6]) (pc := 30) d_MO_unlock_30 rfl rfl rfl s_MO_in lk_MO_77 rfl rfl (c_MO_in  ?_)
    refine Ev_if_ne (tgt := 40) (pc := 33) d_MO_unlock_33 rfl (fun q3 => ?_) (fun q3 => ?_)
    · refine Ev_iconst (v := 0) (pc := 40) d_MO_unlock_40 (by decide) ?_
      rw [f_MO_unlock_0] at k
      have j := c_MO_unlock_0_41 (E := E) (P := P) (h := h) (x1 := x1) (x2 := x2) (x3 := x3)  k
      rw [m_MO_unlock_0_41, if_neg q1, if_neg q3] at j
      exact j
    · refine Ev_iconst (v := 1) (pc := 36) d_MO_unlock_36 (by decide) ?_
      refine Ev_goto (tgt := 41) (pc := 37) d_MO_unlock_37 rfl ?_
      rw [f_MO_unlock_0] at k
      have j := c_MO_unlock_0_41 (E := E) (P := P) (h := h) (x1 := x1) (x2 := x2) (x3 := x3)  k
      rw [m_MO_unlock_0_41, if_neg q1, if_pos q3] at j
      exact j
def m_MO_need_1_29 (x1 : Int32) (x2 : Int32) : Int32 := (if (f_MO_in x2 0 7) = 0 then 1 else 0)
def f_MO_need_1_29 (h : ev_H) (x1 : Int32) (x2 : Int32) : Int32 × ev_H := ((if ((f_MO_refused h 0 (m_MO_need_1_29 x1 x2) 0 0).1) = 0 then (gI ((f_MO_refused h 0 (m_MO_need_1_29 x1 x2) 0 0).2) 0 25 x1.toNatClampNeg) else 0), (if ((f_MO_refused h 0 (m_MO_need_1_29 x1 x2) 0 0).1) = 0 then (sI ((f_MO_refused h 0 (m_MO_need_1_29 x1 x2) 0 0).2) 0 25 x1.toNatClampNeg x2) else ((f_MO_refused h 0 (m_MO_need_1_29 x1 x2) 0 0).2)))
theorem c_MO_need_1_29 {E : ev_E} {P : Option ev_V ⊕ Nat → ev_H → Prop} {h : ev_H} {x1 : Int32} {x2 : Int32} (hR : rfs h) (n1 : ¬ x1 < 0) (n2 : x1.toNatClampNeg < 10) (k : P (.inl (some (vI (f_MO_need_1_29 h x1 x2).1))) (f_MO_need_1_29 h x1 x2).2) : Ev E M_MO_need 29 [(0, vR 0 6), (1, vI x1), (2, vI x2)] [vI (m_MO_need_1_29 x1 x2), vI 0, vR 0 6] h P := by
  refine Ev_iconst (v := 0) (pc := 29) d_MO_need_29 (by decide) ?_
  refine Ev_iconst (v := 0) (pc := 30) d_MO_need_30 (by decide) ?_
  refine Ev_callV (M' := M_MO_refused) (as := [vI 0, vI (m_MO_need_1_29 x1 x2), vI 0, vI 0]) (st := []) (a := 0) (i := 6) (pc := 31) d_MO_need_31 rfl rfl rfl rfl rfl rfl rfl v_MO_refused lk_MO_85 rfl rfl (c_MO_refused  ?_)
  refine Ev_if_eq (tgt := 39) (pc := 34) d_MO_need_34 rfl (fun q2 => ?_) (fun q2 => ?_)
  · refine Ev_aload_n (pc := 39) d_MO_need_39 rfl ?_
    refine Ev_getR (pc := 40) d_MO_need_40 rfl rfl rfl fl_MO_64 (rf_MO_24 hR) ?_
    refine Ev_iload_n (pc := 43) d_MO_need_43 rfl ?_
    refine Ev_iald (pc := 44) d_MO_need_44 rfl rfl n1 n2 ?_
    refine Ev_istore_n (pc := 45) d_MO_need_45 rfl ?_
    refine Ev_aload_n (pc := 46) d_MO_need_46 rfl ?_
    refine Ev_getR (pc := 47) d_MO_need_47 rfl rfl rfl fl_MO_64 (rf_MO_24 hR) ?_
    refine Ev_iload_n (pc := 50) d_MO_need_50 rfl ?_
    refine Ev_iload_n (pc := 51) d_MO_need_51 rfl ?_
    refine Ev_iast (pc := 52) d_MO_need_52 rfl rfl n1 n2 ?_
    refine Ev_iload_n (pc := 53) d_MO_need_53 rfl ?_
    refine Ev_ireturn (pc := 54) d_MO_need_54 rfl rfl ?_
    simp only [f_MO_need_1_29, if_pos q2] at k
    exact k
  · refine Ev_iconst (v := 0) (pc := 37) d_MO_need_37 (by decide) ?_
    refine Ev_ireturn (pc := 38) d_MO_need_38 rfl rfl ?_
    simp only [f_MO_need_1_29, if_neg q2] at k
    exact k
def f_MO_need_1 (h : ev_H) (x1 : Int32) (x2 : Int32) : Int32 × ev_H := f_MO_need_1_29 h x1 x2
theorem c_MO_need_1 {E : ev_E} {P : Option ev_V ⊕ Nat → ev_H → Prop} {h : ev_H} {x1 : Int32} {x2 : Int32} (v0 : f_MO_isPatient h x1 = 1) (hR : rfs h) (n2 : ¬ x1 < 0) (n3 : x1.toNatClampNeg < 10) (k : P (.inl (some (vI (f_MO_need_1 h x1 x2).1))) (f_MO_need_1 h x1 x2).2) : Ev E M_MO_need 0 [(0, vR 0 6), (1, vI x1), (2, vI x2)] [] h P := by
  refine Ev_aload_n (pc := 0) d_MO_need_0 rfl ?_
  refine Ev_aload_n (pc := 1) d_MO_need_1 rfl ?_
  refine Ev_iload_n (pc := 2) d_MO_need_2 rfl ?_
  refine Ev_callV (M' := M_MO_isPatient) (as := [vI x1]) (st := [vR 0 6]) (a := 0) (i := 6) (pc := 3) d_MO_need_3 rfl rfl rfl rfl rfl rfl rfl v_MO_isPatient lk_MO_121 rfl rfl (c_MO_isPatientV (v := 1) v0 ?_)
  refine Ev_if_ne (tgt := 13) (pc := 6) d_MO_need_6 rfl (fun _ => ?_) (fun q => absurd q (by decide))
  refine Ev_iconst (v := 0) (pc := 13) d_MO_need_13 (by decide) ?_
  refine Ev_iload_n (pc := 14) d_MO_need_14 rfl ?_
  refine Ev_iconst (v := 0) (pc := 15) d_MO_need_15 (by decide) ?_
  refine Ev_bipush (v := 7) (pc := 16) d_MO_need_16 (by decide) ?_
  refine Ev_callS (M' := M_MO_in) (as := [vI x2, vI 0, vI 7]) (st := [vI 0, vR 0 6]) (pc := 18) d_MO_need_18 rfl rfl rfl s_MO_in lk_MO_77 rfl rfl (c_MO_in  ?_)
  refine Ev_if_ne (tgt := 28) (pc := 21) d_MO_need_21 rfl (fun q1 => ?_) (fun q1 => ?_)
  · refine Ev_iconst (v := 0) (pc := 28) d_MO_need_28 (by decide) ?_
    rw [f_MO_need_1] at k
    have j := c_MO_need_1_29 (E := E) (P := P) (h := h) (x1 := x1) (x2 := x2) hR n2 n3 k
    rw [m_MO_need_1_29, if_neg q1] at j
    exact j
  · refine Ev_iconst (v := 1) (pc := 24) d_MO_need_24 (by decide) ?_
    refine Ev_goto (tgt := 29) (pc := 25) d_MO_need_25 rfl ?_
    rw [f_MO_need_1] at k
    have j := c_MO_need_1_29 (E := E) (P := P) (h := h) (x1 := x1) (x2 := x2) hR n2 n3 k
    rw [m_MO_need_1_29, if_pos q1] at j
    exact j
def m_MO_need_0_29 (x1 : Int32) (x2 : Int32) : Int32 := (if (f_MO_in x2 0 7) = 0 then 1 else 0)
def f_MO_need_0_29 (h : ev_H) (x1 : Int32) (x2 : Int32) : Int32 × ev_H := (0, (sI h 0 6 0 1))
theorem c_MO_need_0_29 {E : ev_E} {P : Option ev_V ⊕ Nat → ev_H → Prop} {h : ev_H} {x1 : Int32} {x2 : Int32} (k : P (.inl (some (vI (f_MO_need_0_29 h x1 x2).1))) (f_MO_need_0_29 h x1 x2).2) : Ev E M_MO_need 29 [(0, vR 0 6), (1, vI x1), (2, vI x2)] [vI (m_MO_need_0_29 x1 x2), vI 1, vR 0 6] h P := by
  refine Ev_iconst (v := 0) (pc := 29) d_MO_need_29 (by decide) ?_
  refine Ev_iconst (v := 0) (pc := 30) d_MO_need_30 (by decide) ?_
  refine Ev_callV (M' := M_MO_refused) (as := [vI 1, vI (m_MO_need_0_29 x1 x2), vI 0, vI 0]) (st := []) (a := 0) (i := 6) (pc := 31) d_MO_need_31 rfl rfl rfl rfl rfl rfl rfl v_MO_refused lk_MO_85 rfl rfl (c_MO_refused1  ?_)
  refine Ev_if_eq (tgt := 39) (pc := 34) d_MO_need_34 rfl (fun q => absurd q (by decide)) (fun _ => ?_)
  refine Ev_iconst (v := 0) (pc := 37) d_MO_need_37 (by decide) ?_
  refine Ev_ireturn (pc := 38) d_MO_need_38 rfl rfl ?_
  rw [f_MO_need_0_29] at k
  exact k
def f_MO_need_0 (h : ev_H) (x1 : Int32) (x2 : Int32) : Int32 × ev_H := f_MO_need_0_29 h x1 x2
theorem c_MO_need_0 {E : ev_E} {P : Option ev_V ⊕ Nat → ev_H → Prop} {h : ev_H} {x1 : Int32} {x2 : Int32} (v0 : f_MO_isPatient h x1 = 0) (k : P (.inl (some (vI (f_MO_need_0 h x1 x2).1))) (f_MO_need_0 h x1 x2).2) : Ev E M_MO_need 0 [(0, vR 0 6), (1, vI x1), (2, vI x2)] [] h P := by
  refine Ev_aload_n (pc := 0) d_MO_need_0 rfl ?_
  refine Ev_aload_n (pc := 1) d_MO_need_1 rfl ?_
  refine Ev_iload_n (pc := 2) d_MO_need_2 rfl ?_
  refine Ev_callV (M' := M_MO_isPatient) (as := [vI x1]) (st := [vR 0 6]) (a := 0) (i := 6) (pc := 3) d_MO_need_3 rfl rfl rfl rfl rfl rfl rfl v_MO_isPatient lk_MO_121 rfl rfl (c_MO_isPatientV (v := 0) v0 ?_)
  refine Ev_if_ne (tgt := 13) (pc := 6) d_MO_need_6 rfl (fun q => absurd q (by decide)) (fun _ => ?_)
  refine Ev_iconst (v := 1) (pc := 9) d_MO_need_9 (by decide) ?_
  refine Ev_goto (tgt := 14) (pc := 10) d_MO_need_10 rfl ?_
  refine Ev_iload_n (pc := 14) d_MO_need_14 rfl ?_
  refine Ev_iconst (v := 0) (pc := 15) d_MO_need_15 (by decide) ?_
  refine Ev_bipush (v := 7) (pc := 16) d_MO_need_16 (by decide) ?_
  refine Ev_callS (M' := M_MO_in) (as := [vI x2, vI 0, vI 7]) (st := [vI 1, vR 0 6]) (pc := 18) d_MO_need_18 rfl rfl rfl s_MO_in lk_MO_77 rfl rfl (c_MO_in  ?_)
  refine Ev_if_ne (tgt := 28) (pc := 21) d_MO_need_21 rfl (fun q1 => ?_) (fun q1 => ?_)
  · refine Ev_iconst (v := 0) (pc := 28) d_MO_need_28 (by decide) ?_
    rw [f_MO_need_0] at k
    have j := c_MO_need_0_29 (E := E) (P := P) (h := h) (x1 := x1) (x2 := x2)  k
    rw [m_MO_need_0_29, if_neg q1] at j
    exact j
  · refine Ev_iconst (v := 1) (pc := 24) d_MO_need_24 (by decide) ?_
    refine Ev_goto (tgt := 29) (pc := 25) d_MO_need_25 rfl ?_
    rw [f_MO_need_0] at k
    have j := c_MO_need_0_29 (E := E) (P := P) (h := h) (x1 := x1) (x2 := x2)  k
    rw [m_MO_need_0_29, if_pos q1] at j
    exact j
def m_MO_crossmatch_11_50 (h : ev_H) (x1 : Int32) (x2 : Int32) (x3 : Int32) : Int32 := (if (f_MO_stateOf h x2) = 0 then 1 else (if (f_MO_stateOf h x2) = 1 then 1 else 0))
def m_MO_crossmatch_11_73 (h : ev_H) (x1 : Int32) (x2 : Int32) (x3 : Int32) : Int32 := (if (m_MO_crossmatch_11_50 h x1 x2 x3) = 0 then 1 else 0)
def m_MO_crossmatch_11_92 (h : ev_H) (x1 : Int32) (x2 : Int32) (x3 : Int32) : Int32 := (if (gI h 0 7 x2.toNatClampNeg) = 0 then 0 else 1)
def m_MO_crossmatch_11_121 (h : ev_H) (x1 : Int32) (x2 : Int32) (x3 : Int32) : Int32 := (if x3 = 0 then -1 else gI ((f_MO_refused h 0 (m_MO_crossmatch_11_73 h x1 x2 x3) (m_MO_crossmatch_11_92 h x1 x2 x3) 0).2) 0 6 1)
def hp_MO_crossmatch_11_122 (h : ev_H) (x1 : Int32) (x2 : Int32) (x3 : Int32) : ev_H := sI ((f_MO_refused h 0 (m_MO_crossmatch_11_73 h x1 x2 x3) (m_MO_crossmatch_11_92 h x1 x2 x3) 0).2) 0 26 ((48 * x1) + x2).toNatClampNeg (m_MO_crossmatch_11_121 h x1 x2 x3)
def f_MO_crossmatch_11_121 (h : ev_H) (x1 : Int32) (x2 : Int32) (x3 : Int32) : ev_H := (hp_MO_crossmatch_11_122 h x1 x2 x3)
theorem c_MO_crossmatch_11_121 {E : ev_E} {P : Option ev_V ⊕ Nat → ev_H → Prop} {h : ev_H} {x1 : Int32} {x2 : Int32} {x3 : Int32} (n1 : ¬ ((48 * x1) + x2) < 0) (n2 : ((48 * x1) + x2).toNatClampNeg < 480) (k : P (.inl none) (f_MO_crossmatch_11_121 h x1 x2 x3)) : Ev E M_MO_crossmatch 121 [(0, vR 0 6), (1, vI x1), (2, vI x2), (3, vI x3), (4, vI 1), (5, vI (m_MO_crossmatch_11_50 h x1 x2 x3))] [vI (m_MO_crossmatch_11_121 h x1 x2 x3), vI ((48 * x1) + x2), vR 0 26] ((f_MO_refused h 0 (m_MO_crossmatch_11_73 h x1 x2 x3) (m_MO_crossmatch_11_92 h x1 x2 x3) 0).2) P := by
  refine Ev_iast (pc := 121) d_MO_crossmatch_121 rfl rfl n1 n2 ?_
  show Ev E M_MO_crossmatch 122 [(0, vR 0 6), (1, vI x1), (2, vI x2), (3, vI x3), (4, vI 1), (5, vI (m_MO_crossmatch_11_50 h x1 x2 x3))] [] (hp_MO_crossmatch_11_122 h x1 x2 x3) P
  refine Ev_return (pc := 122) d_MO_crossmatch_122 rfl ?_
  rw [f_MO_crossmatch_11_121] at k
  exact k
def f_MO_crossmatch_11_92 (h : ev_H) (x1 : Int32) (x2 : Int32) (x3 : Int32) : ev_H := (if ((f_MO_refused h 0 (m_MO_crossmatch_11_73 h x1 x2 x3) (m_MO_crossmatch_11_92 h x1 x2 x3) 0).1) = 0 then f_MO_crossmatch_11_121 h x1 x2 x3 else ((f_MO_refused h 0 (m_MO_crossmatch_11_73 h x1 x2 x3) (m_MO_crossmatch_11_92 h x1 x2 x3) 0).2))
theorem c_MO_crossmatch_11_92 {E : ev_E} {P : Option ev_V ⊕ Nat → ev_H → Prop} {h : ev_H} {x1 : Int32} {x2 : Int32} {x3 : Int32} (hR : rfs h) (n1 : ¬ ((48 * x1) + x2) < 0) (n2 : ((48 * x1) + x2).toNatClampNeg < 480) (k : P (.inl none) (f_MO_crossmatch_11_92 h x1 x2 x3)) : Ev E M_MO_crossmatch 92 [(0, vR 0 6), (1, vI x1), (2, vI x2), (3, vI x3), (4, vI 1), (5, vI (m_MO_crossmatch_11_50 h x1 x2 x3))] [vI (m_MO_crossmatch_11_92 h x1 x2 x3), vI (m_MO_crossmatch_11_73 h x1 x2 x3), vI 0, vR 0 6] h P := by
  refine Ev_iconst (v := 0) (pc := 92) d_MO_crossmatch_92 (by decide) ?_
  refine Ev_callV (M' := M_MO_refused) (as := [vI 0, vI (m_MO_crossmatch_11_73 h x1 x2 x3), vI (m_MO_crossmatch_11_92 h x1 x2 x3), vI 0]) (st := []) (a := 0) (i := 6) (pc := 93) d_MO_crossmatch_93 rfl rfl rfl rfl rfl rfl rfl v_MO_refused lk_MO_85 rfl rfl (c_MO_refused  ?_)
  refine Ev_if_ne (tgt := 122) (pc := 96) d_MO_crossmatch_96 rfl (fun q5 => ?_) (fun q5 => ?_)
  · refine Ev_return (pc := 122) d_MO_crossmatch_122 rfl ?_
    rw [f_MO_crossmatch_11_92, if_neg q5] at k
    exact k
  · refine Ev_aload_n (pc := 99) d_MO_crossmatch_99 rfl ?_
    refine Ev_getR (pc := 100) d_MO_crossmatch_100 rfl rfl rfl fl_MO_67 (rf_MO_25 hR) ?_
    refine Ev_bipush (v := 48) (pc := 103) d_MO_crossmatch_103 (by decide) ?_
    refine Ev_iload_n (pc := 105) d_MO_crossmatch_105 rfl ?_
    refine Ev_imul (pc := 106) d_MO_crossmatch_106 ?_
    refine Ev_iload_n (pc := 107) d_MO_crossmatch_107 rfl ?_
    refine Ev_iadd (pc := 108) d_MO_crossmatch_108 ?_
    refine Ev_iload_n (pc := 109) d_MO_crossmatch_109 rfl ?_
    refine Ev_if_eq (tgt := 120) (pc := 110) d_MO_crossmatch_110 rfl (fun q6 => ?_) (fun q6 => ?_)
    · refine Ev_iconst (v := -1) (pc := 120) d_MO_crossmatch_120 (by decide) ?_
      rw [f_MO_crossmatch_11_92, if_pos q5] at k
      have j := c_MO_crossmatch_11_121 (E := E) (P := P) (h := h) (x1 := x1) (x2 := x2) (x3 := x3) n1 n2 k
      rw [m_MO_crossmatch_11_121, if_pos q6] at j
      exact j
    · refine Ev_aload_n (pc := 113) d_MO_crossmatch_113 rfl ?_
      refine Ev_getI (pc := 114) d_MO_crossmatch_114 rfl rfl rfl fl_MO_89 ?_
      refine Ev_goto (tgt := 121) (pc := 117) d_MO_crossmatch_117 rfl ?_
      rw [f_MO_crossmatch_11_92, if_pos q5] at k
      have j := c_MO_crossmatch_11_121 (E := E) (P := P) (h := h) (x1 := x1) (x2 := x2) (x3 := x3) n1 n2 k
      rw [m_MO_crossmatch_11_121, if_neg q6] at j
      exact j
def f_MO_crossmatch_11_73 (h : ev_H) (x1 : Int32) (x2 : Int32) (x3 : Int32) : ev_H := f_MO_crossmatch_11_92 h x1 x2 x3
theorem c_MO_crossmatch_11_73 {E : ev_E} {P : Option ev_V ⊕ Nat → ev_H → Prop} {h : ev_H} {x1 : Int32} {x2 : Int32} {x3 : Int32} (hR : rfs h) (n1 : ¬ x2 < 0) (n2 : x2.toNatClampNeg < 48) (n3 : ¬ ((48 * x1) + x2) < 0) (n4 : ((48 * x1) + x2).toNatClampNeg < 480) (k : P (.inl none) (f_MO_crossmatch_11_73 h x1 x2 x3)) : Ev E M_MO_crossmatch 73 [(0, vR 0 6), (1, vI x1), (2, vI x2), (3, vI x3), (4, vI 1), (5, vI (m_MO_crossmatch_11_50 h x1 x2 x3))] [vI (m_MO_crossmatch_11_73 h x1 x2 x3), vI 0, vR 0 6] h P := by
  refine Ev_iload (pc := 73) d_MO_crossmatch_73 rfl ?_
  refine Ev_if_eq (tgt := 91) (pc := 75) d_MO_crossmatch_75 rfl (fun q => absurd q (by decide)) (fun _ => ?_)
  refine Ev_aload_n (pc := 78) d_MO_crossmatch_78 rfl ?_
  refine Ev_getR (pc := 79) d_MO_crossmatch_79 rfl rfl rfl fl_MO_7 (rf_MO_3 hR) ?_
  refine Ev_iload_n (pc := 82) d_MO_crossmatch_82 rfl ?_
  refine Ev_iald (pc := 83) d_MO_crossmatch_83 rfl rfl n1 n2 ?_
  refine Ev_if_eq (tgt := 91) (pc := 84) d_MO_crossmatch_84 rfl (fun q4 => ?_) (fun q4 => ?_)
  · refine Ev_iconst (v := 0) (pc := 91) d_MO_crossmatch_91 (by decide) ?_
    rw [f_MO_crossmatch_11_73] at k
    have j := c_MO_crossmatch_11_92 (E := E) (P := P) (h := h) (x1 := x1) (x2 := x2) (x3 := x3) hR n3 n4 k
    rw [m_MO_crossmatch_11_92, if_pos q4] at j
    exact j
  · refine Ev_iconst (v := 1) (pc := 87) d_MO_crossmatch_87 (by decide) ?_
    refine Ev_goto (tgt := 92) (pc := 88) d_MO_crossmatch_88 rfl ?_
    rw [f_MO_crossmatch_11_73] at k
    have j := c_MO_crossmatch_11_92 (E := E) (P := P) (h := h) (x1 := x1) (x2 := x2) (x3 := x3) hR n3 n4 k
    rw [m_MO_crossmatch_11_92, if_neg q4] at j
    exact j
def f_MO_crossmatch_11_50 (h : ev_H) (x1 : Int32) (x2 : Int32) (x3 : Int32) : ev_H := f_MO_crossmatch_11_73 h x1 x2 x3
theorem c_MO_crossmatch_11_50 {E : ev_E} {P : Option ev_V ⊕ Nat → ev_H → Prop} {h : ev_H} {x1 : Int32} {x2 : Int32} {x3 : Int32} (hR : rfs h) (n1 : ¬ x2 < 0) (n2 : x2.toNatClampNeg < 48) (n3 : ¬ ((48 * x1) + x2) < 0) (n4 : ((48 * x1) + x2).toNatClampNeg < 480) (k : P (.inl none) (f_MO_crossmatch_11_50 h x1 x2 x3)) : Ev E M_MO_crossmatch 50 [(0, vR 0 6), (1, vI x1), (2, vI x2), (3, vI x3), (4, vI 1)] [vI (m_MO_crossmatch_11_50 h x1 x2 x3)] h P := by
  refine Ev_istore (pc := 50) d_MO_crossmatch_50 rfl ?_
  refine Ev_aload_n (pc := 52) d_MO_crossmatch_52 rfl ?_
  refine Ev_iload (pc := 53) d_MO_crossmatch_53 rfl ?_
  refine Ev_if_ne (tgt := 62) (pc := 55) d_MO_crossmatch_55 rfl (fun _ => ?_) (fun q => absurd q (by decide))
  refine Ev_iconst (v := 0) (pc := 62) d_MO_crossmatch_62 (by decide) ?_
  refine Ev_iload (pc := 63) d_MO_crossmatch_63 rfl ?_
  refine Ev_if_ne (tgt := 72) (pc := 65) d_MO_crossmatch_65 rfl (fun q3 => ?_) (fun q3 => ?_)
  · refine Ev_iconst (v := 0) (pc := 72) d_MO_crossmatch_72 (by decide) ?_
    rw [f_MO_crossmatch_11_50] at k
    have j := c_MO_crossmatch_11_73 (E := E) (P := P) (h := h) (x1 := x1) (x2 := x2) (x3 := x3) hR n1 n2 n3 n4 k
    rw [m_MO_crossmatch_11_73, if_neg q3] at j
    exact j
  · refine Ev_iconst (v := 1) (pc := 68) d_MO_crossmatch_68 (by decide) ?_
    refine Ev_goto (tgt := 73) (pc := 69) d_MO_crossmatch_69 rfl ?_
    rw [f_MO_crossmatch_11_50] at k
    have j := c_MO_crossmatch_11_73 (E := E) (P := P) (h := h) (x1 := x1) (x2 := x2) (x3 := x3) hR n1 n2 n3 n4 k
    rw [m_MO_crossmatch_11_73, if_pos q3] at j
    exact j
def f_MO_crossmatch_11 (h : ev_H) (x1 : Int32) (x2 : Int32) (x3 : Int32) : ev_H := f_MO_crossmatch_11_50 h x1 x2 x3
theorem c_MO_crossmatch_11 {E : ev_E} {P : Option ev_V ⊕ Nat → ev_H → Prop} {h : ev_H} {x1 : Int32} {x2 : Int32} {x3 : Int32} (v0 : f_MO_isPatient h x1 = 1) (v1 : f_MO_isUnit h x2 = 1) (hR : rfs h) (n3 : ¬ x2 < 0) (n4 : x2.toNatClampNeg < 48) (n5 : ¬ ((48 * x1) + x2) < 0) (n6 : ((48 * x1) + x2).toNatClampNeg < 480) (k : P (.inl none) (f_MO_crossmatch_11 h x1 x2 x3)) : Ev E M_MO_crossmatch 0 [(0, vR 0 6), (1, vI x1), (2, vI x2), (3, vI x3)] [] h P := by
  refine Ev_aload_n (pc := 0) d_MO_crossmatch_0 rfl ?_
  refine Ev_iload_n (pc := 1) d_MO_crossmatch_1 rfl ?_
  refine Ev_callV (M' := M_MO_isPatient) (as := [vI x1]) (st := []) (a := 0) (i := 6) (pc := 2) d_MO_crossmatch_2 rfl rfl rfl rfl rfl rfl rfl v_MO_isPatient lk_MO_121 rfl rfl (c_MO_isPatientV (v := 1) v0 ?_)
  refine Ev_if_eq (tgt := 20) (pc := 5) d_MO_crossmatch_5 rfl (fun q => absurd q (by decide)) (fun _ => ?_)
  refine Ev_aload_n (pc := 8) d_MO_crossmatch_8 rfl ?_
  refine Ev_iload_n (pc := 9) d_MO_crossmatch_9 rfl ?_
  refine Ev_callV (M' := M_MO_isUnit) (as := [vI x2]) (st := []) (a := 0) (i := 6) (pc := 10) d_MO_crossmatch_10 rfl rfl rfl rfl rfl rfl rfl v_MO_isUnit lk_MO_111 rfl rfl (c_MO_isUnitV (v := 1) v1 ?_)
  refine Ev_if_eq (tgt := 20) (pc := 13) d_MO_crossmatch_13 rfl (fun q => absurd q (by decide)) (fun _ => ?_)
  refine Ev_iconst (v := 1) (pc := 16) d_MO_crossmatch_16 (by decide) ?_
  refine Ev_goto (tgt := 21) (pc := 17) d_MO_crossmatch_17 rfl ?_
  refine Ev_istore (pc := 21) d_MO_crossmatch_21 rfl ?_
  refine Ev_iload (pc := 23) d_MO_crossmatch_23 rfl ?_
  refine Ev_if_eq (tgt := 49) (pc := 25) d_MO_crossmatch_25 rfl (fun q => absurd q (by decide)) (fun _ => ?_)
  refine Ev_aload_n (pc := 28) d_MO_crossmatch_28 rfl ?_
  refine Ev_iload_n (pc := 29) d_MO_crossmatch_29 rfl ?_
  refine Ev_callV (M' := M_MO_stateOf) (as := [vI x2]) (st := []) (a := 0) (i := 6) (pc := 30) d_MO_crossmatch_30 rfl rfl rfl rfl rfl rfl rfl v_MO_stateOf lk_MO_95 rfl rfl (c_MO_stateOf hR n3 n4 ?_)
  refine Ev_if_eq (tgt := 45) (pc := 33) d_MO_crossmatch_33 rfl (fun q1 => ?_) (fun q1 => ?_)
  · refine Ev_iconst (v := 1) (pc := 45) d_MO_crossmatch_45 (by decide) ?_
    refine Ev_goto (tgt := 50) (pc := 46) d_MO_crossmatch_46 rfl ?_
    rw [f_MO_crossmatch_11] at k
    have j := c_MO_crossmatch_11_50 (E := E) (P := P) (h := h) (x1 := x1) (x2 := x2) (x3 := x3) hR n3 n4 n5 n6 k
    rw [m_MO_crossmatch_11_50, if_pos q1] at j
    exact j
  · refine Ev_aload_n (pc := 36) d_MO_crossmatch_36 rfl ?_
    refine Ev_iload_n (pc := 37) d_MO_crossmatch_37 rfl ?_
    refine Ev_callV (M' := M_MO_stateOf) (as := [vI x2]) (st := []) (a := 0) (i := 6) (pc := 38) d_MO_crossmatch_38 rfl rfl rfl rfl rfl rfl rfl v_MO_stateOf lk_MO_95 rfl rfl (c_MO_stateOf hR n3 n4 ?_)
    refine Ev_iconst (v := 1) (pc := 41) d_MO_crossmatch_41 (by decide) ?_
    refine Ev_icmp_ne (tgt := 49) (pc := 42) d_MO_crossmatch_42 rfl (fun q7 => ?_) (fun q7 => ?_)
    · refine Ev_iconst (v := 0) (pc := 49) d_MO_crossmatch_49 (by decide) ?_
      rw [f_MO_crossmatch_11] at k
      have j := c_MO_crossmatch_11_50 (E := E) (P := P) (h := h) (x1 := x1) (x2 := x2) (x3 := x3) hR n3 n4 n5 n6 k
      rw [m_MO_crossmatch_11_50, if_neg q1, if_neg q7] at j
      exact j
    · refine Ev_iconst (v := 1) (pc := 45) d_MO_crossmatch_45 (by decide) ?_
      refine Ev_goto (tgt := 50) (pc := 46) d_MO_crossmatch_46 rfl ?_
      rw [f_MO_crossmatch_11] at k
      have j := c_MO_crossmatch_11_50 (E := E) (P := P) (h := h) (x1 := x1) (x2 := x2) (x3 := x3) hR n3 n4 n5 n6 k
      rw [m_MO_crossmatch_11_50, if_neg q1, if_pos q7] at j
      exact j
def f_MO_crossmatch_10 (h : ev_H) (x1 : Int32) (x2 : Int32) (x3 : Int32) : ev_H := (sI h 0 6 0 1)
theorem c_MO_crossmatch_10 {E : ev_E} {P : Option ev_V ⊕ Nat → ev_H → Prop} {h : ev_H} {x1 : Int32} {x2 : Int32} {x3 : Int32} (v0 : f_MO_isPatient h x1 = 1) (v1 : f_MO_isUnit h x2 = 0) (k : P (.inl none) (f_MO_crossmatch_10 h x1 x2 x3)) : Ev E M_MO_crossmatch 0 [(0, vR 0 6), (1, vI x1), (2, vI x2), (3, vI x3)] [] h P := by
  refine Ev_aload_n (pc := 0) d_MO_crossmatch_0 rfl ?_
  refine Ev_iload_n (pc := 1) d_MO_crossmatch_1 rfl ?_
  refine Ev_callV (M' := M_MO_isPatient) (as := [vI x1]) (st := []) (a := 0) (i := 6) (pc := 2) d_MO_crossmatch_2 rfl rfl rfl rfl rfl rfl rfl v_MO_isPatient lk_MO_121 rfl rfl (c_MO_isPatientV (v := 1) v0 ?_)
  refine Ev_if_eq (tgt := 20) (pc := 5) d_MO_crossmatch_5 rfl (fun q => absurd q (by decide)) (fun _ => ?_)
  refine Ev_aload_n (pc := 8) d_MO_crossmatch_8 rfl ?_
  refine Ev_iload_n (pc := 9) d_MO_crossmatch_9 rfl ?_
  refine Ev_callV (M' := M_MO_isUnit) (as := [vI x2]) (st := []) (a := 0) (i := 6) (pc := 10) d_MO_crossmatch_10 rfl rfl rfl rfl rfl rfl rfl v_MO_isUnit lk_MO_111 rfl rfl (c_MO_isUnitV (v := 0) v1 ?_)
  refine Ev_if_eq (tgt := 20) (pc := 13) d_MO_crossmatch_13 rfl (fun _ => ?_) (fun q => absurd q (by decide))
  refine Ev_iconst (v := 0) (pc := 20) d_MO_crossmatch_20 (by decide) ?_
  refine Ev_istore (pc := 21) d_MO_crossmatch_21 rfl ?_
  refine Ev_iload (pc := 23) d_MO_crossmatch_23 rfl ?_
  refine Ev_if_eq (tgt := 49) (pc := 25) d_MO_crossmatch_25 rfl (fun _ => ?_) (fun q => absurd q (by decide))
  refine Ev_iconst (v := 0) (pc := 49) d_MO_crossmatch_49 (by decide) ?_
  refine Ev_istore (pc := 50) d_MO_crossmatch_50 rfl ?_
  refine Ev_aload_n (pc := 52) d_MO_crossmatch_52 rfl ?_
  refine Ev_iload (pc := 53) d_MO_crossmatch_53 rfl ?_
  refine Ev_if_ne (tgt := 62) (pc := 55) d_MO_crossmatch_55 rfl (fun q => absurd q (by decide)) (fun _ => ?_)
  refine Ev_iconst (v := 1) (pc := 58) d_MO_crossmatch_58 (by decide) ?_
  refine Ev_goto (tgt := 63) (pc := 59) d_MO_crossmatch_59 rfl ?_
  refine Ev_iload (pc := 63) d_MO_crossmatch_63 rfl ?_
  refine Ev_if_ne (tgt := 72) (pc := 65) d_MO_crossmatch_65 rfl (fun q => absurd q (by decide)) (fun _ => ?_)
  refine Ev_iconst (v := 1) (pc := 68) d_MO_crossmatch_68 (by decide) ?_
  refine Ev_goto (tgt := 73) (pc := 69) d_MO_crossmatch_69 rfl ?_
  refine Ev_iload (pc := 73) d_MO_crossmatch_73 rfl ?_
  refine Ev_if_eq (tgt := 91) (pc := 75) d_MO_crossmatch_75 rfl (fun _ => ?_) (fun q => absurd q (by decide))
  refine Ev_iconst (v := 0) (pc := 91) d_MO_crossmatch_91 (by decide) ?_
  refine Ev_iconst (v := 0) (pc := 92) d_MO_crossmatch_92 (by decide) ?_
  refine Ev_callV (M' := M_MO_refused) (as := [vI 1, vI 1, vI 0, vI 0]) (st := []) (a := 0) (i := 6) (pc := 93) d_MO_crossmatch_93 rfl rfl rfl rfl rfl rfl rfl v_MO_refused lk_MO_85 rfl rfl (c_MO_refused1  ?_)
  refine Ev_if_ne (tgt := 122) (pc := 96) d_MO_crossmatch_96 rfl (fun _ => ?_) (fun q => absurd q (by decide))
  refine Ev_return (pc := 122) d_MO_crossmatch_122 rfl ?_
  rw [f_MO_crossmatch_10] at k
  exact k
def f_MO_crossmatch_0 (h : ev_H) (x1 : Int32) (x2 : Int32) (x3 : Int32) : ev_H := (sI h 0 6 0 1)
theorem c_MO_crossmatch_0 {E : ev_E} {P : Option ev_V ⊕ Nat → ev_H → Prop} {h : ev_H} {x1 : Int32} {x2 : Int32} {x3 : Int32} (v0 : f_MO_isPatient h x1 = 0) (k : P (.inl none) (f_MO_crossmatch_0 h x1 x2 x3)) : Ev E M_MO_crossmatch 0 [(0, vR 0 6), (1, vI x1), (2, vI x2), (3, vI x3)] [] h P := by
  refine Ev_aload_n (pc := 0) d_MO_crossmatch_0 rfl ?_
  refine Ev_iload_n (pc := 1) d_MO_crossmatch_1 rfl ?_
  refine Ev_callV (M' := M_MO_isPatient) (as := [vI x1]) (st := []) (a := 0) (i := 6) (pc := 2) d_MO_crossmatch_2 rfl rfl rfl rfl rfl rfl rfl v_MO_isPatient lk_MO_121 rfl rfl (c_MO_isPatientV (v := 0) v0 ?_)
  refine Ev_if_eq (tgt := 20) (pc := 5) d_MO_crossmatch_5 rfl (fun _ => ?_) (fun q => absurd q (by decide))
  refine Ev_iconst (v := 0) (pc := 20) d_MO_crossmatch_20 (by decide) ?_
  refine Ev_istore (pc := 21) d_MO_crossmatch_21 rfl ?_
  refine Ev_iload (pc := 23) d_MO_crossmatch_23 rfl ?_
  refine Ev_if_eq (tgt := 49) (pc := 25) d_MO_crossmatch_25 rfl (fun _ => ?_) (fun q => absurd q (by decide))
  refine Ev_iconst (v := 0) (pc := 49) d_MO_crossmatch_49 (by decide) ?_
  refine Ev_istore (pc := 50) d_MO_crossmatch_50 rfl ?_
  refine Ev_aload_n (pc := 52) d_MO_crossmatch_52 rfl ?_
  refine Ev_iload (pc := 53) d_MO_crossmatch_53 rfl ?_
  refine Ev_if_ne (tgt := 62) (pc := 55) d_MO_crossmatch_55 rfl (fun q => absurd q (by decide)) (fun _ => ?_)
  refine Ev_iconst (v := 1) (pc := 58) d_MO_crossmatch_58 (by decide) ?_
  refine Ev_goto (tgt := 63) (pc := 59) d_MO_crossmatch_59 rfl ?_
  refine Ev_iload (pc := 63) d_MO_crossmatch_63 rfl ?_
  refine Ev_if_ne (tgt := 72) (pc := 65) d_MO_crossmatch_65 rfl (fun q => absurd q (by decide)) (fun _ => ?_)
  refine Ev_iconst (v := 1) (pc := 68) d_MO_crossmatch_68 (by decide) ?_
  refine Ev_goto (tgt := 73) (pc := 69) d_MO_crossmatch_69 rfl ?_
  refine Ev_iload (pc := 73) d_MO_crossmatch_73 rfl ?_
  refine Ev_if_eq (tgt := 91) (pc := 75) d_MO_crossmatch_75 rfl (fun _ => ?_) (fun q => absurd q (by decide))
  refine Ev_iconst (v := 0) (pc := 91) d_MO_crossmatch_91 (by decide) ?_
  refine Ev_iconst (v := 0) (pc := 92) d_MO_crossmatch_92 (by decide) ?_
  refine Ev_callV (M' := M_MO_refused) (as := [vI 1, vI 1, vI 0, vI 0]) (st := []) (a := 0) (i := 6) (pc := 93) d_MO_crossmatch_93 rfl rfl rfl rfl rfl rfl rfl v_MO_refused lk_MO_85 rfl rfl (c_MO_refused1  ?_)
  refine Ev_if_ne (tgt := 122) (pc := 96) d_MO_crossmatch_96 rfl (fun _ => ?_) (fun q => absurd q (by decide))
  refine Ev_return (pc := 122) d_MO_crossmatch_122 rfl ?_
  rw [f_MO_crossmatch_0] at k
  exact k
def m_MO_reserve_11_49 (h : ev_H) (x1 : Int32) (x2 : Int32) : Int32 := (if (f_MO_isReady h x2) = 0 then 0 else (if (gI h 0 23 x1.toNatClampNeg) = 2 then 0 else 1))
def m_MO_reserve_11_71 (h : ev_H) (x1 : Int32) (x2 : Int32) : Int32 := (if (m_MO_reserve_11_49 h x1 x2) = 0 then 1 else 0)
def m_MO_reserve_11_99 (h : ev_H) (x1 : Int32) (x2 : Int32) : Int32 := (if (m_MO_reserve_11_49 h x1 x2) = 0 then 0 else (if (f_MO_reasonFor h x1 x2) = 0 then (if (f_MO_isMatched h x1 x2) = 0 then 1 else 0) else 1))
def hp_MO_reserve_11_132 (h : ev_H) (x1 : Int32) (x2 : Int32) : ev_H := sI (sI (sI ((f_MO_refused h 0 (m_MO_reserve_11_71 h x1 x2) (m_MO_reserve_11_99 h x1 x2) 0).2) 0 15 x2.toNatClampNeg 1) 0 16 x2.toNatClampNeg x1) 0 17 x2.toNatClampNeg (gI (sI (sI ((f_MO_refused h 0 (m_MO_reserve_11_71 h x1 x2) (m_MO_reserve_11_99 h x1 x2) 0).2) 0 15 x2.toNatClampNeg 1) 0 16 x2.toNatClampNeg x1) 0 6 1)
def f_MO_reserve_11_99 (h : ev_H) (x1 : Int32) (x2 : Int32) : Int32 × ev_H := ((if ((f_MO_refused h 0 (m_MO_reserve_11_71 h x1 x2) (m_MO_reserve_11_99 h x1 x2) 0).1) = 0 then ((gI (hp_MO_reserve_11_132 h x1 x2) 0 6 1) + 4320) else 0), (if ((f_MO_refused h 0 (m_MO_reserve_11_71 h x1 x2) (m_MO_reserve_11_99 h x1 x2) 0).1) = 0 then (hp_MO_reserve_11_132 h x1 x2) else ((f_MO_refused h 0 (m_MO_reserve_11_71 h x1 x2) (m_MO_reserve_11_99 h x1 x2) 0).2)))
theorem c_MO_reserve_11_99 {E : ev_E} {P : Option ev_V ⊕ Nat → ev_H → Prop} {h : ev_H} {x1 : Int32} {x2 : Int32} (hR : rfs h) (n1 : ¬ x2 < 0) (n2 : x2.toNatClampNeg < 48) (k : P (.inl (some (vI (f_MO_reserve_11_99 h x1 x2).1))) (f_MO_reserve_11_99 h x1 x2).2) : Ev E M_MO_reserve 99 [(0, vR 0 6), (1, vI x1), (2, vI x2), (3, vI 1), (4, vI (m_MO_reserve_11_49 h x1 x2))] [vI (m_MO_reserve_11_99 h x1 x2), vI (m_MO_reserve_11_71 h x1 x2), vI 0, vR 0 6] h P := by
  refine Ev_iconst (v := 0) (pc := 99) d_MO_reserve_99 (by decide) ?_
  refine Ev_callV (M' := M_MO_refused) (as := [vI 0, vI (m_MO_reserve_11_71 h x1 x2), vI (m_MO_reserve_11_99 h x1 x2), vI 0]) (st := []) (a := 0) (i := 6) (pc := 100) d_MO_reserve_100 rfl rfl rfl rfl rfl rfl rfl v_MO_refused lk_MO_85 rfl rfl (c_MO_refused  ?_)
  refine Ev_if_eq (tgt := 108) (pc := 103) d_MO_reserve_103 rfl (fun q7 => ?_) (fun q7 => ?_)
  · refine Ev_aload_n (pc := 108) d_MO_reserve_108 rfl ?_
    refine Ev_getR (pc := 109) d_MO_reserve_109 rfl rfl rfl fl_MO_34 (rf_MO_11 hR) ?_
    refine Ev_iload_n (pc := 112) d_MO_reserve_112 rfl ?_
    refine Ev_iconst (v := 1) (pc := 113) d_MO_reserve_113 (by decide) ?_
    refine Ev_iast (pc := 114) d_MO_reserve_114 rfl rfl n1 n2 ?_
    refine Ev_aload_n (pc := 115) d_MO_reserve_115 rfl ?_
    refine Ev_getR (pc := 116) d_MO_reserve_116 rfl rfl rfl fl_MO_37 (rf_MO_12 hR) ?_
    refine Ev_iload_n (pc := 119) d_MO_reserve_119 rfl ?_
    refine Ev_iload_n (pc := 120) d_MO_reserve_120 rfl ?_
    refine Ev_iast (pc := 121) d_MO_reserve_121 rfl rfl n1 n2 ?_
    refine Ev_aload_n (pc := 122) d_MO_reserve_122 rfl ?_
    refine Ev_getR (pc := 123) d_MO_reserve_123 rfl rfl rfl fl_MO_40 (rf_MO_13 hR) ?_
    refine Ev_iload_n (pc := 126) d_MO_reserve_126 rfl ?_
    refine Ev_aload_n (pc := 127) d_MO_reserve_127 rfl ?_
    refine Ev_getI (pc := 128) d_MO_reserve_128 rfl rfl rfl fl_MO_89 ?_
    refine Ev_iast (pc := 131) d_MO_reserve_131 rfl rfl n1 n2 ?_
    show Ev E M_MO_reserve 132 [(0, vR 0 6), (1, vI x1), (2, vI x2), (3, vI 1), (4, vI (m_MO_reserve_11_49 h x1 x2))] [] (hp_MO_reserve_11_132 h x1 x2) P
    refine Ev_aload_n (pc := 132) d_MO_reserve_132 rfl ?_
    refine Ev_getI (pc := 133) d_MO_reserve_133 rfl rfl rfl fl_MO_89 ?_
    refine Ev_sipush (v := 4320) (pc := 136) d_MO_reserve_136 (by decide) ?_
    refine Ev_iadd (pc := 139) d_MO_reserve_139 ?_
    refine Ev_ireturn (pc := 140) d_MO_reserve_140 rfl rfl ?_
    simp only [f_MO_reserve_11_99, if_pos q7] at k
    exact k
  · refine Ev_iconst (v := 0) (pc := 106) d_MO_reserve_106 (by decide) ?_
    refine Ev_ireturn (pc := 107) d_MO_reserve_107 rfl rfl ?_
    simp only [f_MO_reserve_11_99, if_neg q7] at k
    exact k
def f_MO_reserve_11_71 (h : ev_H) (x1 : Int32) (x2 : Int32) : Int32 × ev_H := f_MO_reserve_11_99 h x1 x2
theorem c_MO_reserve_11_71 {E : ev_E} {P : Option ev_V ⊕ Nat → ev_H → Prop} {h : ev_H} {x1 : Int32} {x2 : Int32} (hR : rfs h) (n1 : ¬ x2 < 0) (n2 : x2.toNatClampNeg < 48) (n3 : ¬ x1 < 0) (n4 : x1.toNatClampNeg < 10) (n5 : ¬ ((48 * x1) + x2) < 0) (n6 : ((48 * x1) + x2).toNatClampNeg < 480) (k : P (.inl (some (vI (f_MO_reserve_11_71 h x1 x2).1))) (f_MO_reserve_11_71 h x1 x2).2) : Ev E M_MO_reserve 71 [(0, vR 0 6), (1, vI x1), (2, vI x2), (3, vI 1), (4, vI (m_MO_reserve_11_49 h x1 x2))] [vI (m_MO_reserve_11_71 h x1 x2), vI 0, vR 0 6] h P := by
  refine Ev_iload (pc := 71) d_MO_reserve_71 rfl ?_
  refine Ev_if_eq (tgt := 98) (pc := 73) d_MO_reserve_73 rfl (fun q4 => ?_) (fun q4 => ?_)
  · refine Ev_iconst (v := 0) (pc := 98) d_MO_reserve_98 (by decide) ?_
    rw [f_MO_reserve_11_71] at k
    have j := c_MO_reserve_11_99 (E := E) (P := P) (h := h) (x1 := x1) (x2 := x2) hR n1 n2 k
    rw [m_MO_reserve_11_99, if_pos q4] at j
    exact j
  · refine Ev_aload_n (pc := 76) d_MO_reserve_76 rfl ?_
    refine Ev_iload_n (pc := 77) d_MO_reserve_77 rfl ?_
    refine Ev_iload_n (pc := 78) d_MO_reserve_78 rfl ?_
    refine Ev_callV (M' := M_MO_reasonFor) (as := [vI x1, vI x2]) (st := [vI (m_MO_reserve_11_71 h x1 x2), vI 0, vR 0 6]) (a := 0) (i := 6) (pc := 79) d_MO_reserve_79 rfl rfl rfl rfl rfl rfl rfl v_MO_reasonFor lk_MO_127 rfl rfl (c_MO_reasonFor hR n1 n2 n3 n4 ?_)
    refine Ev_if_ne (tgt := 94) (pc := 82) d_MO_reserve_82 rfl (fun q8 => ?_) (fun q8 => ?_)
    · refine Ev_iconst (v := 1) (pc := 94) d_MO_reserve_94 (by decide) ?_
      refine Ev_goto (tgt := 99) (pc := 95) d_MO_reserve_95 rfl ?_
      rw [f_MO_reserve_11_71] at k
      have j := c_MO_reserve_11_99 (E := E) (P := P) (h := h) (x1 := x1) (x2 := x2) hR n1 n2 k
      rw [m_MO_reserve_11_99, if_neg q4, if_neg q8] at j
      exact j
    · refine Ev_aload_n (pc := 85) d_MO_reserve_85 rfl ?_
      refine Ev_iload_n (pc := 86) d_MO_reserve_86 rfl ?_
      refine Ev_iload_n (pc := 87) d_MO_reserve_87 rfl ?_
      refine Ev_callV (M' := M_MO_isMatched) (as := [vI x1, vI x2]) (st := [vI (m_MO_reserve_11_71 h x1 x2), vI 0, vR 0 6]) (a := 0) (i := 6) (pc := 88) d_MO_reserve_88 rfl rfl rfl rfl rfl rfl rfl v_MO_isMatched lk_MO_131 rfl rfl (c_MO_isMatched hR n5 n6 n1 n2 ?_)
      refine Ev_if_ne (tgt := 98) (pc := 91) d_MO_reserve_91 rfl (fun q9 => ?_) (fun q9 => ?_)
      · refine Ev_iconst (v := 0) (pc := 98) d_MO_reserve_98 (by decide) ?_
        rw [f_MO_reserve_11_71] at k
        have j := c_MO_reserve_11_99 (E := E) (P := P) (h := h) (x1 := x1) (x2 := x2) hR n1 n2 k
        rw [m_MO_reserve_11_99, if_neg q4, if_pos q8, if_neg q9] at j
        exact j
      · refine Ev_iconst (v := 1) (pc := 94) d_MO_reserve_94 (by decide) ?_
        refine Ev_goto (tgt := 99) (pc := 95) d_MO_reserve_95 rfl ?_
        rw [f_MO_reserve_11_71] at k
        have j := c_MO_reserve_11_99 (E := E) (P := P) (h := h) (x1 := x1) (x2 := x2) hR n1 n2 k
        rw [m_MO_reserve_11_99, if_neg q4, if_pos q8, if_pos q9] at j
        exact j
def f_MO_reserve_11_49 (h : ev_H) (x1 : Int32) (x2 : Int32) : Int32 × ev_H := f_MO_reserve_11_71 h x1 x2
theorem c_MO_reserve_11_49 {E : ev_E} {P : Option ev_V ⊕ Nat → ev_H → Prop} {h : ev_H} {x1 : Int32} {x2 : Int32} (hR : rfs h) (n1 : ¬ x2 < 0) (n2 : x2.toNatClampNeg < 48) (n3 : ¬ x1 < 0) (n4 : x1.toNatClampNeg < 10) (n5 : ¬ ((48 * x1) + x2) < 0) (n6 : ((48 * x1) + x2).toNatClampNeg < 480) (k : P (.inl (some (vI (f_MO_reserve_11_49 h x1 x2).1))) (f_MO_reserve_11_49 h x1 x2).2) : Ev E M_MO_reserve 49 [(0, vR 0 6), (1, vI x1), (2, vI x2), (3, vI 1)] [vI (m_MO_reserve_11_49 h x1 x2)] h P := by
  refine Ev_istore (pc := 49) d_MO_reserve_49 rfl ?_
  refine Ev_aload_n (pc := 51) d_MO_reserve_51 rfl ?_
  refine Ev_iload_n (pc := 52) d_MO_reserve_52 rfl ?_
  refine Ev_if_ne (tgt := 60) (pc := 53) d_MO_reserve_53 rfl (fun _ => ?_) (fun q => absurd q (by decide))
  refine Ev_iconst (v := 0) (pc := 60) d_MO_reserve_60 (by decide) ?_
  refine Ev_iload (pc := 61) d_MO_reserve_61 rfl ?_
  refine Ev_if_ne (tgt := 70) (pc := 63) d_MO_reserve_63 rfl (fun q3 => ?_) (fun q3 => ?_)
  · refine Ev_iconst (v := 0) (pc := 70) d_MO_reserve_70 (by decide) ?_
    rw [f_MO_reserve_11_49] at k
    have j := c_MO_reserve_11_71 (E := E) (P := P) (h := h) (x1 := x1) (x2 := x2) hR n1 n2 n3 n4 n5 n6 k
    rw [m_MO_reserve_11_71, if_neg q3] at j
    exact j
  · refine Ev_iconst (v := 1) (pc := 66) d_MO_reserve_66 (by decide) ?_
    refine Ev_goto (tgt := 71) (pc := 67) d_MO_reserve_67 rfl ?_
    rw [f_MO_reserve_11_49] at k
    have j := c_MO_reserve_11_71 (E := E) (P := P) (h := h) (x1 := x1) (x2 := x2) hR n1 n2 n3 n4 n5 n6 k
    rw [m_MO_reserve_11_71, if_pos q3] at j
    exact j
def f_MO_reserve_11 (h : ev_H) (x1 : Int32) (x2 : Int32) : Int32 × ev_H := f_MO_reserve_11_49 h x1 x2
theorem c_MO_reserve_11 {E : ev_E} {P : Option ev_V ⊕ Nat → ev_H → Prop} {h : ev_H} {x1 : Int32} {x2 : Int32} (v0 : f_MO_isPatient h x1 = 1) (v1 : f_MO_isUnit h x2 = 1) (hR : rfs h) (n3 : ¬ x2 < 0) (n4 : x2.toNatClampNeg < 48) (n5 : ¬ x1 < 0) (n6 : x1.toNatClampNeg < 10) (n7 : ¬ ((48 * x1) + x2) < 0) (n8 : ((48 * x1) + x2).toNatClampNeg < 480) (k : P (.inl (some (vI (f_MO_reserve_11 h x1 x2).1))) (f_MO_reserve_11 h x1 x2).2) : Ev E M_MO_reserve 0 [(0, vR 0 6), (1, vI x1), (2, vI x2)] [] h P := by
  refine Ev_aload_n (pc := 0) d_MO_reserve_0 rfl ?_
  refine Ev_iload_n (pc := 1) d_MO_reserve_1 rfl ?_
  refine Ev_callV (M' := M_MO_isPatient) (as := [vI x1]) (st := []) (a := 0) (i := 6) (pc := 2) d_MO_reserve_2 rfl rfl rfl rfl rfl rfl rfl v_MO_isPatient lk_MO_121 rfl rfl (c_MO_isPatientV (v := 1) v0 ?_)
  refine Ev_if_eq (tgt := 20) (pc := 5) d_MO_reserve_5 rfl (fun q => absurd q (by decide)) (fun _ => ?_)
  refine Ev_aload_n (pc := 8) d_MO_reserve_8 rfl ?_
  refine Ev_iload_n (pc := 9) d_MO_reserve_9 rfl ?_
  refine Ev_callV (M' := M_MO_isUnit) (as := [vI x2]) (st := []) (a := 0) (i := 6) (pc := 10) d_MO_reserve_10 rfl rfl rfl rfl rfl rfl rfl v_MO_isUnit lk_MO_111 rfl rfl (c_MO_isUnitV (v := 1) v1 ?_)
  refine Ev_if_eq (tgt := 20) (pc := 13) d_MO_reserve_13 rfl (fun q => absurd q (by decide)) (fun _ => ?_)
  refine Ev_iconst (v := 1) (pc := 16) d_MO_reserve_16 (by decide) ?_
  refine Ev_goto (tgt := 21) (pc := 17) d_MO_reserve_17 rfl ?_
  refine Ev_istore_n (pc := 21) d_MO_reserve_21 rfl ?_
  refine Ev_iload_n (pc := 22) d_MO_reserve_22 rfl ?_
  refine Ev_if_eq (tgt := 48) (pc := 23) d_MO_reserve_23 rfl (fun q => absurd q (by decide)) (fun _ => ?_)
  refine Ev_aload_n (pc := 26) d_MO_reserve_26 rfl ?_
  refine Ev_iload_n (pc := 27) d_MO_reserve_27 rfl ?_
  refine Ev_callV (M' := M_MO_isReady) (as := [vI x2]) (st := []) (a := 0) (i := 6) (pc := 28) d_MO_reserve_28 rfl rfl rfl rfl rfl rfl rfl v_MO_isReady lk_MO_114 rfl rfl (c_MO_isReady hR n3 n4 ?_)
  refine Ev_if_eq (tgt := 48) (pc := 31) d_MO_reserve_31 rfl (fun q1 => ?_) (fun q1 => ?_)
  · refine Ev_iconst (v := 0) (pc := 48) d_MO_reserve_48 (by decide) ?_
    rw [f_MO_reserve_11] at k
    have j := c_MO_reserve_11_49 (E := E) (P := P) (h := h) (x1 := x1) (x2 := x2) hR n3 n4 n5 n6 n7 n8 k
    rw [m_MO_reserve_11_49, if_pos q1] at j
    exact j
  · refine Ev_aload_n (pc := 34) d_MO_reserve_34 rfl ?_
    refine Ev_getR (pc := 35) d_MO_reserve_35 rfl rfl rfl fl_MO_58 (rf_MO_22 hR) ?_
    refine Ev_iload_n (pc := 38) d_MO_reserve_38 rfl ?_
    refine Ev_iald (pc := 39) d_MO_reserve_39 rfl rfl n5 n6 ?_
    refine Ev_iconst (v := 2) (pc := 40) d_MO_reserve_40 (by decide) ?_
    refine Ev_icmp_eq (tgt := 48) (pc := 41) d_MO_reserve_41 rfl (fun q10 => ?_) (fun q10 => ?_)
    · refine Ev_iconst (v := 0) (pc := 48) d_MO_reserve_48 (by decide) ?_
      rw [f_MO_reserve_11] at k
      have j := c_MO_reserve_11_49 (E := E) (P := P) (h := h) (x1 := x1) (x2 := x2) hR n3 n4 n5 n6 n7 n8 k
      rw [m_MO_reserve_11_49, if_neg q1, if_pos q10] at j
      exact j
    · refine Ev_iconst (v := 1) (pc := 44) d_MO_reserve_44 (by decide) ?_
      refine Ev_goto (tgt := 49) (pc := 45) d_MO_reserve_45 rfl ?_
      rw [f_MO_reserve_11] at k
      have j := c_MO_reserve_11_49 (E := E) (P := P) (h := h) (x1 := x1) (x2 := x2) hR n3 n4 n5 n6 n7 n8 k
      rw [m_MO_reserve_11_49, if_neg q1, if_neg q10] at j
      exact j
def f_MO_reserve_10 (h : ev_H) (x1 : Int32) (x2 : Int32) : Int32 × ev_H := (0, (sI h 0 6 0 1))
theorem c_MO_reserve_10 {E : ev_E} {P : Option ev_V ⊕ Nat → ev_H → Prop} {h : ev_H} {x1 : Int32} {x2 : Int32} (v0 : f_MO_isPatient h x1 = 1) (v1 : f_MO_isUnit h x2 = 0) (k : P (.inl (some (vI (f_MO_reserve_10 h x1 x2).1))) (f_MO_reserve_10 h x1 x2).2) : Ev E M_MO_reserve 0 [(0, vR 0 6), (1, vI x1), (2, vI x2)] [] h P := by
  refine Ev_aload_n (pc := 0) d_MO_reserve_0 rfl ?_
  refine Ev_iload_n (pc := 1) d_MO_reserve_1 rfl ?_
  refine Ev_callV (M' := M_MO_isPatient) (as := [vI x1]) (st := []) (a := 0) (i := 6) (pc := 2) d_MO_reserve_2 rfl rfl rfl rfl rfl rfl rfl v_MO_isPatient lk_MO_121 rfl rfl (c_MO_isPatientV (v := 1) v0 ?_)
  refine Ev_if_eq (tgt := 20) (pc := 5) d_MO_reserve_5 rfl (fun q => absurd q (by decide)) (fun _ => ?_)
  refine Ev_aload_n (pc := 8) d_MO_reserve_8 rfl ?_
  refine Ev_iload_n (pc := 9) d_MO_reserve_9 rfl ?_
  refine Ev_callV (M' := M_MO_isUnit) (as := [vI x2]) (st := []) (a := 0) (i := 6) (pc := 10) d_MO_reserve_10 rfl rfl rfl rfl rfl rfl rfl v_MO_isUnit lk_MO_111 rfl rfl (c_MO_isUnitV (v := 0) v1 ?_)
  refine Ev_if_eq (tgt := 20) (pc := 13) d_MO_reserve_13 rfl (fun _ => ?_) (fun q => absurd q (by decide))
  refine Ev_iconst (v := 0) (pc := 20) d_MO_reserve_20 (by decide) ?_
  refine Ev_istore_n (pc := 21) d_MO_reserve_21 rfl ?_
  refine Ev_iload_n (pc := 22) d_MO_reserve_22 rfl ?_
  refine Ev_if_eq (tgt := 48) (pc := 23) d_MO_reserve_23 rfl (fun _ => ?_) (fun q => absurd q (by decide))
  refine Ev_iconst (v := 0) (pc := 48) d_MO_reserve_48 (by decide) ?_
  refine Ev_istore (pc := 49) d_MO_reserve_49 rfl ?_
  refine Ev_aload_n (pc := 51) d_MO_reserve_51 rfl ?_
  refine Ev_iload_n (pc := 52) d_MO_reserve_52 rfl ?_
  refine Ev_if_ne (tgt := 60) (pc := 53) d_MO_reserve_53 rfl (fun q => absurd q (by decide)) (fun _ => ?_)
  refine Ev_iconst (v := 1) (pc := 56) d_MO_reserve_56 (by decide) ?_
  refine Ev_goto (tgt := 61) (pc := 57) d_MO_reserve_57 rfl ?_
  refine Ev_iload (pc := 61) d_MO_reserve_61 rfl ?_
  refine Ev_if_ne (tgt := 70) (pc := 63) d_MO_reserve_63 rfl (fun q => absurd q (by decide)) (fun _ => ?_)
  refine Ev_iconst (v := 1) (pc := 66) d_MO_reserve_66 (by decide) ?_
  refine Ev_goto (tgt := 71) (pc := 67) d_MO_reserve_67 rfl ?_
  refine Ev_iload (pc := 71) d_MO_reserve_71 rfl ?_
  refine Ev_if_eq (tgt := 98) (pc := 73) d_MO_reserve_73 rfl (fun _ => ?_) (fun q => absurd q (by decide))
  refine Ev_iconst (v := 0) (pc := 98) d_MO_reserve_98 (by decide) ?_
  refine Ev_iconst (v := 0) (pc := 99) d_MO_reserve_99 (by decide) ?_
  refine Ev_callV (M' := M_MO_refused) (as := [vI 1, vI 1, vI 0, vI 0]) (st := []) (a := 0) (i := 6) (pc := 100) d_MO_reserve_100 rfl rfl rfl rfl rfl rfl rfl v_MO_refused lk_MO_85 rfl rfl (c_MO_refused1  ?_)
  refine Ev_if_eq (tgt := 108) (pc := 103) d_MO_reserve_103 rfl (fun q => absurd q (by decide)) (fun _ => ?_)
  refine Ev_iconst (v := 0) (pc := 106) d_MO_reserve_106 (by decide) ?_
  refine Ev_ireturn (pc := 107) d_MO_reserve_107 rfl rfl ?_
  rw [f_MO_reserve_10] at k
  exact k
def f_MO_reserve_0 (h : ev_H) (x1 : Int32) (x2 : Int32) : Int32 × ev_H := (0, (sI h 0 6 0 1))
theorem c_MO_reserve_0 {E : ev_E} {P : Option ev_V ⊕ Nat → ev_H → Prop} {h : ev_H} {x1 : Int32} {x2 : Int32} (v0 : f_MO_isPatient h x1 = 0) (k : P (.inl (some (vI (f_MO_reserve_0 h x1 x2).1))) (f_MO_reserve_0 h x1 x2).2) : Ev E M_MO_reserve 0 [(0, vR 0 6), (1, vI x1), (2, vI x2)] [] h P := by
  refine Ev_aload_n (pc := 0) d_MO_reserve_0 rfl ?_
  refine Ev_iload_n (pc := 1) d_MO_reserve_1 rfl ?_
  refine Ev_callV (M' := M_MO_isPatient) (as := [vI x1]) (st := []) (a := 0) (i := 6) (pc := 2) d_MO_reserve_2 rfl rfl rfl rfl rfl rfl rfl v_MO_isPatient lk_MO_121 rfl rfl (c_MO_isPatientV (v := 0) v0 ?_)
  refine Ev_if_eq (tgt := 20) (pc := 5) d_MO_reserve_5 rfl (fun _ => ?_) (fun q => absurd q (by decide))
  refine Ev_iconst (v := 0) (pc := 20) d_MO_reserve_20 (by decide) ?_
  refine Ev_istore_n (pc := 21) d_MO_reserve_21 rfl ?_
  refine Ev_iload_n (pc := 22) d_MO_reserve_22 rfl ?_
  refine Ev_if_eq (tgt := 48) (pc := 23) d_MO_reserve_23 rfl (fun _ => ?_) (fun q => absurd q (by decide))
  refine Ev_iconst (v := 0) (pc := 48) d_MO_reserve_48 (by decide) ?_
  refine Ev_istore (pc := 49) d_MO_reserve_49 rfl ?_
  refine Ev_aload_n (pc := 51) d_MO_reserve_51 rfl ?_
  refine Ev_iload_n (pc := 52) d_MO_reserve_52 rfl ?_
  refine Ev_if_ne (tgt := 60) (pc := 53) d_MO_reserve_53 rfl (fun q => absurd q (by decide)) (fun _ => ?_)
  refine Ev_iconst (v := 1) (pc := 56) d_MO_reserve_56 (by decide) ?_
  refine Ev_goto (tgt := 61) (pc := 57) d_MO_reserve_57 rfl ?_
  refine Ev_iload (pc := 61) d_MO_reserve_61 rfl ?_
  refine Ev_if_ne (tgt := 70) (pc := 63) d_MO_reserve_63 rfl (fun q => absurd q (by decide)) (fun _ => ?_)
  refine Ev_iconst (v := 1) (pc := 66) d_MO_reserve_66 (by decide) ?_
  refine Ev_goto (tgt := 71) (pc := 67) d_MO_reserve_67 rfl ?_
  refine Ev_iload (pc := 71) d_MO_reserve_71 rfl ?_
  refine Ev_if_eq (tgt := 98) (pc := 73) d_MO_reserve_73 rfl (fun _ => ?_) (fun q => absurd q (by decide))
  refine Ev_iconst (v := 0) (pc := 98) d_MO_reserve_98 (by decide) ?_
  refine Ev_iconst (v := 0) (pc := 99) d_MO_reserve_99 (by decide) ?_
  refine Ev_callV (M' := M_MO_refused) (as := [vI 1, vI 1, vI 0, vI 0]) (st := []) (a := 0) (i := 6) (pc := 100) d_MO_reserve_100 rfl rfl rfl rfl rfl rfl rfl v_MO_refused lk_MO_85 rfl rfl (c_MO_refused1  ?_)
  refine Ev_if_eq (tgt := 108) (pc := 103) d_MO_reserve_103 rfl (fun q => absurd q (by decide)) (fun _ => ?_)
  refine Ev_iconst (v := 0) (pc := 106) d_MO_reserve_106 (by decide) ?_
  refine Ev_ireturn (pc := 107) d_MO_reserve_107 rfl rfl ?_
  rw [f_MO_reserve_0] at k
  exact k
def m_MO_release_1_34 (h : ev_H) (x1 : Int32) : Int32 := (if (f_MO_stateOf h x1) = 1 then 0 else 1)
def f_MO_release_1_34 (h : ev_H) (x1 : Int32) : Int32 × ev_H := ((if ((f_MO_refused h 0 (m_MO_release_1_34 h x1) 0 0).1) = 0 then (gI (sI ((f_MO_refused h 0 (m_MO_release_1_34 h x1) 0 0).2) 0 15 x1.toNatClampNeg 0) 0 16 x1.toNatClampNeg) else 0), (if ((f_MO_refused h 0 (m_MO_release_1_34 h x1) 0 0).1) = 0 then (sI ((f_MO_refused h 0 (m_MO_release_1_34 h x1) 0 0).2) 0 15 x1.toNatClampNeg 0) else ((f_MO_refused h 0 (m_MO_release_1_34 h x1) 0 0).2)))
theorem c_MO_release_1_34 {E : ev_E} {P : Option ev_V ⊕ Nat → ev_H → Prop} {h : ev_H} {x1 : Int32} (hR : rfs h) (n1 : ¬ x1 < 0) (n2 : x1.toNatClampNeg < 48) (k : P (.inl (some (vI (f_MO_release_1_34 h x1).1))) (f_MO_release_1_34 h x1).2) : Ev E M_MO_release 34 [(0, vR 0 6), (1, vI x1), (2, vI 1)] [vI (m_MO_release_1_34 h x1), vI 0, vR 0 6] h P := by
  refine Ev_iconst (v := 0) (pc := 34) d_MO_release_34 (by decide) ?_
  refine Ev_iconst (v := 0) (pc := 35) d_MO_release_35 (by decide) ?_
  refine Ev_callV (M' := M_MO_refused) (as := [vI 0, vI (m_MO_release_1_34 h x1), vI 0, vI 0]) (st := []) (a := 0) (i := 6) (pc := 36) d_MO_release_36 rfl rfl rfl rfl rfl rfl rfl v_MO_refused lk_MO_85 rfl rfl (c_MO_refused  ?_)
  refine Ev_if_eq (tgt := 44) (pc := 39) d_MO_release_39 rfl (fun q2 => ?_) (fun q2 => ?_)
  · refine Ev_aload_n (pc := 44) d_MO_release_44 rfl ?_
    refine Ev_getR (pc := 45) d_MO_release_45 rfl rfl rfl fl_MO_34 (rf_MO_11 hR) ?_
    refine Ev_iload_n (pc := 48) d_MO_release_48 rfl ?_
    refine Ev_iconst (v := 0) (pc := 49) d_MO_release_49 (by decide) ?_
    refine Ev_iast (pc := 50) d_MO_release_50 rfl rfl n1 n2 ?_
    refine Ev_aload_n (pc := 51) d_MO_release_51 rfl ?_
    refine Ev_getR (pc := 52) d_MO_release_52 rfl rfl rfl fl_MO_37 (rf_MO_12 hR) ?_
    refine Ev_iload_n (pc := 55) d_MO_release_55 rfl ?_
    refine Ev_iald (pc := 56) d_MO_release_56 rfl rfl n1 n2 ?_
    refine Ev_ireturn (pc := 57) d_MO_release_57 rfl rfl ?_
    simp only [f_MO_release_1_34, if_pos q2] at k
    exact k
  · refine Ev_iconst (v := 0) (pc := 42) d_MO_release_42 (by decide) ?_
    refine Ev_ireturn (pc := 43) d_MO_release_43 rfl rfl ?_
    simp only [f_MO_release_1_34, if_neg q2] at k
    exact k
def f_MO_release_1 (h : ev_H) (x1 : Int32) : Int32 × ev_H := f_MO_release_1_34 h x1
theorem c_MO_release_1 {E : ev_E} {P : Option ev_V ⊕ Nat → ev_H → Prop} {h : ev_H} {x1 : Int32} (v0 : f_MO_isUnit h x1 = 1) (hR : rfs h) (n2 : ¬ x1 < 0) (n3 : x1.toNatClampNeg < 48) (k : P (.inl (some (vI (f_MO_release_1 h x1).1))) (f_MO_release_1 h x1).2) : Ev E M_MO_release 0 [(0, vR 0 6), (1, vI x1)] [] h P := by
  refine Ev_aload_n (pc := 0) d_MO_release_0 rfl ?_
  refine Ev_iload_n (pc := 1) d_MO_release_1 rfl ?_
  refine Ev_callV (M' := M_MO_isUnit) (as := [vI x1]) (st := []) (a := 0) (i := 6) (pc := 2) d_MO_release_2 rfl rfl rfl rfl rfl rfl rfl v_MO_isUnit lk_MO_111 rfl rfl (c_MO_isUnitV (v := 1) v0 ?_)
  refine Ev_istore_n (pc := 5) d_MO_release_5 rfl ?_
  refine Ev_aload_n (pc := 6) d_MO_release_6 rfl ?_
  refine Ev_iload_n (pc := 7) d_MO_release_7 rfl ?_
  refine Ev_if_ne (tgt := 15) (pc := 8) d_MO_release_8 rfl (fun _ => ?_) (fun q => absurd q (by decide))
  refine Ev_iconst (v := 0) (pc := 15) d_MO_release_15 (by decide) ?_
  refine Ev_iload_n (pc := 16) d_MO_release_16 rfl ?_
  refine Ev_if_eq (tgt := 33) (pc := 17) d_MO_release_17 rfl (fun q => absurd q (by decide)) (fun _ => ?_)
  refine Ev_aload_n (pc := 20) d_MO_release_20 rfl ?_
  refine Ev_iload_n (pc := 21) d_MO_release_21 rfl ?_
  refine Ev_callV (M' := M_MO_stateOf) (as := [vI x1]) (st := [vI 0, vR 0 6]) (a := 0) (i := 6) (pc := 22) d_MO_release_22 rfl rfl rfl rfl rfl rfl rfl v_MO_stateOf lk_MO_95 rfl rfl (c_MO_stateOf hR n2 n3 ?_)
  refine Ev_iconst (v := 1) (pc := 25) d_MO_release_25 (by decide) ?_
  refine Ev_icmp_eq (tgt := 33) (pc := 26) d_MO_release_26 rfl (fun q1 => ?_) (fun q1 => ?_)
  · refine Ev_iconst (v := 0) (pc := 33) d_MO_release_33 (by decide) ?_
    rw [f_MO_release_1] at k
    have j := c_MO_release_1_34 (E := E) (P := P) (h := h) (x1 := x1) hR n2 n3 k
    rw [m_MO_release_1_34, if_pos q1] at j
    exact j
  · refine Ev_iconst (v := 1) (pc := 29) d_MO_release_29 (by decide) ?_
    refine Ev_goto (tgt := 34) (pc := 30) d_MO_release_30 rfl ?_
    rw [f_MO_release_1] at k
    have j := c_MO_release_1_34 (E := E) (P := P) (h := h) (x1 := x1) hR n2 n3 k
    rw [m_MO_release_1_34, if_neg q1] at j
    exact j
def f_MO_release_0 (h : ev_H) (x1 : Int32) : Int32 × ev_H := (0, (sI h 0 6 0 1))
theorem c_MO_release_0 {E : ev_E} {P : Option ev_V ⊕ Nat → ev_H → Prop} {h : ev_H} {x1 : Int32} (v0 : f_MO_isUnit h x1 = 0) (k : P (.inl (some (vI (f_MO_release_0 h x1).1))) (f_MO_release_0 h x1).2) : Ev E M_MO_release 0 [(0, vR 0 6), (1, vI x1)] [] h P := by
  refine Ev_aload_n (pc := 0) d_MO_release_0 rfl ?_
  refine Ev_iload_n (pc := 1) d_MO_release_1 rfl ?_
  refine Ev_callV (M' := M_MO_isUnit) (as := [vI x1]) (st := []) (a := 0) (i := 6) (pc := 2) d_MO_release_2 rfl rfl rfl rfl rfl rfl rfl v_MO_isUnit lk_MO_111 rfl rfl (c_MO_isUnitV (v := 0) v0 ?_)
  refine Ev_istore_n (pc := 5) d_MO_release_5 rfl ?_
  refine Ev_aload_n (pc := 6) d_MO_release_6 rfl ?_
  refine Ev_iload_n (pc := 7) d_MO_release_7 rfl ?_
  refine Ev_if_ne (tgt := 15) (pc := 8) d_MO_release_8 rfl (fun q => absurd q (by decide)) (fun _ => ?_)
  refine Ev_iconst (v := 1) (pc := 11) d_MO_release_11 (by decide) ?_
  refine Ev_goto (tgt := 16) (pc := 12) d_MO_release_12 rfl ?_
  refine Ev_iload_n (pc := 16) d_MO_release_16 rfl ?_
  refine Ev_if_eq (tgt := 33) (pc := 17) d_MO_release_17 rfl (fun _ => ?_) (fun q => absurd q (by decide))
  refine Ev_iconst (v := 0) (pc := 33) d_MO_release_33 (by decide) ?_
  refine Ev_iconst (v := 0) (pc := 34) d_MO_release_34 (by decide) ?_
  refine Ev_iconst (v := 0) (pc := 35) d_MO_release_35 (by decide) ?_
  refine Ev_callV (M' := M_MO_refused) (as := [vI 1, vI 0, vI 0, vI 0]) (st := []) (a := 0) (i := 6) (pc := 36) d_MO_release_36 rfl rfl rfl rfl rfl rfl rfl v_MO_refused lk_MO_85 rfl rfl (c_MO_refused1  ?_)
  refine Ev_if_eq (tgt := 44) (pc := 39) d_MO_release_39 rfl (fun q => absurd q (by decide)) (fun _ => ?_)
  refine Ev_iconst (v := 0) (pc := 42) d_MO_release_42 (by decide) ?_
  refine Ev_ireturn (pc := 43) d_MO_release_43 rfl rfl ?_
  rw [f_MO_release_0] at k
  exact k
def m_MO_giveBack_1_51 (h : ev_H) (x1 : Int32) : Int32 := (if (gI h 0 15 x1.toNatClampNeg) = 2 then (if ((gI h 0 6 1) - (gI h 0 17 x1.toNatClampNeg)) < 30 then 0 else 1) else 1)
def f_MO_giveBack_1_51 (h : ev_H) (x1 : Int32) : Int32 × ev_H := ((if ((f_MO_refused h 0 (m_MO_giveBack_1_51 h x1) 0 0).1) = 0 then ((gI (sI (sI (sI ((f_MO_refused h 0 (m_MO_giveBack_1_51 h x1) 0 0).2) 0 15 x1.toNatClampNeg 0) 0 18 x1.toNatClampNeg 0) 0 19 x1.toNatClampNeg 0) 0 6 1) - (gI (sI (sI (sI ((f_MO_refused h 0 (m_MO_giveBack_1_51 h x1) 0 0).2) 0 15 x1.toNatClampNeg 0) 0 18 x1.toNatClampNeg 0) 0 19 x1.toNatClampNeg 0) 0 17 x1.toNatClampNeg)) else 0), (if ((f_MO_refused h 0 (m_MO_giveBack_1_51 h x1) 0 0).1) = 0 then (sI (sI (sI ((f_MO_refused h 0 (m_MO_giveBack_1_51 h x1) 0 0).2) 0 15 x1.toNatClampNeg 0) 0 18 x1.toNatClampNeg 0) 0 19 x1.toNatClampNeg 0) else ((f_MO_refused h 0 (m_MO_giveBack_1_51 h x1) 0 0).2)))
theorem c_MO_giveBack_1_51 {E : ev_E} {P : Option ev_V ⊕ Nat → ev_H → Prop} {h : ev_H} {x1 : Int32} (hR : rfs h) (n1 : ¬ x1 < 0) (n2 : x1.toNatClampNeg < 48) (k : P (.inl (some (vI (f_MO_giveBack_1_51 h x1).1))) (f_MO_giveBack_1_51 h x1).2) : Ev E M_MO_giveBack 51 [(0, vR 0 6), (1, vI x1), (2, vI 1)] [vI (m_MO_giveBack_1_51 h x1), vI 0, vR 0 6] h P := by
  refine Ev_iconst (v := 0) (pc := 51) d_MO_giveBack_51 (by decide) ?_
  refine Ev_iconst (v := 0) (pc := 52) d_MO_giveBack_52 (by decide) ?_
  refine Ev_callV (M' := M_MO_refused) (as := [vI 0, vI (m_MO_giveBack_1_51 h x1), vI 0, vI 0]) (st := []) (a := 0) (i := 6) (pc := 53) d_MO_giveBack_53 rfl rfl rfl rfl rfl rfl rfl v_MO_refused lk_MO_85 rfl rfl (c_MO_refused  ?_)
  refine Ev_if_eq (tgt := 61) (pc := 56) d_MO_giveBack_56 rfl (fun q3 => ?_) (fun q3 => ?_)
  · refine Ev_aload_n (pc := 61) d_MO_giveBack_61 rfl ?_
    refine Ev_getR (pc := 62) d_MO_giveBack_62 rfl rfl rfl fl_MO_34 (rf_MO_11 hR) ?_
    refine Ev_iload_n (pc := 65) d_MO_giveBack_65 rfl ?_
    refine Ev_iconst (v := 0) (pc := 66) d_MO_giveBack_66 (by decide) ?_
    refine Ev_iast (pc := 67) d_MO_giveBack_67 rfl rfl n1 n2 ?_
    refine Ev_aload_n (pc := 68) d_MO_giveBack_68 rfl ?_
    refine Ev_getR (pc := 69) d_MO_giveBack_69 rfl rfl rfl fl_MO_43 (rf_MO_14 hR) ?_
    refine Ev_iload_n (pc := 72) d_MO_giveBack_72 rfl ?_
    refine Ev_iconst (v := 0) (pc := 73) d_MO_giveBack_73 (by decide) ?_
    refine Ev_iast (pc := 74) d_MO_giveBack_74 rfl rfl n1 n2 ?_
    refine Ev_aload_n (pc := 75) d_MO_giveBack_75 rfl ?_
    refine Ev_getR (pc := 76) d_MO_giveBack_76 rfl rfl rfl fl_MO_46 (rf_MO_15 hR) ?_
    refine Ev_iload_n (pc := 79) d_MO_giveBack_79 rfl ?_
    refine Ev_iconst (v := 0) (pc := 80) d_MO_giveBack_80 (by decide) ?_
    refine Ev_iast (pc := 81) d_MO_giveBack_81 rfl rfl n1 n2 ?_
    refine Ev_aload_n (pc := 82) d_MO_giveBack_82 rfl ?_
    refine Ev_getI (pc := 83) d_MO_giveBack_83 rfl rfl rfl fl_MO_89 ?_
    refine Ev_aload_n (pc := 86) d_MO_giveBack_86 rfl ?_
    refine Ev_getR (pc := 87) d_MO_giveBack_87 rfl rfl rfl fl_MO_40 (rf_MO_13 hR) ?_
    refine Ev_iload_n (pc := 90) d_MO_giveBack_90 rfl ?_
    refine Ev_iald (pc := 91) d_MO_giveBack_91 rfl rfl n1 n2 ?_
    refine Ev_isub (pc := 92) d_MO_giveBack_92 ?_
    refine Ev_ireturn (pc := 93) d_MO_giveBack_93 rfl rfl ?_
    simp only [f_MO_giveBack_1_51, if_pos q3] at k
    exact k
  · refine Ev_iconst (v := 0) (pc := 59) d_MO_giveBack_59 (by decide) ?_
    refine Ev_ireturn (pc := 60) d_MO_giveBack_60 rfl rfl ?_
    simp only [f_MO_giveBack_1_51, if_neg q3] at k
    exact k
def f_MO_giveBack_1 (h : ev_H) (x1 : Int32) : Int32 × ev_H := f_MO_giveBack_1_51 h x1
theorem c_MO_giveBack_1 {E : ev_E} {P : Option ev_V ⊕ Nat → ev_H → Prop} {h : ev_H} {x1 : Int32} (v0 : f_MO_isUnit h x1 = 1) (hR : rfs h) (n2 : ¬ x1 < 0) (n3 : x1.toNatClampNeg < 48) (k : P (.inl (some (vI (f_MO_giveBack_1 h x1).1))) (f_MO_giveBack_1 h x1).2) : Ev E M_MO_giveBack 0 [(0, vR 0 6), (1, vI x1)] [] h P := by
  refine Ev_aload_n (pc := 0) d_MO_giveBack_0 rfl ?_
  refine Ev_iload_n (pc := 1) d_MO_giveBack_1 rfl ?_
  refine Ev_callV (M' := M_MO_isUnit) (as := [vI x1]) (st := []) (a := 0) (i := 6) (pc := 2) d_MO_giveBack_2 rfl rfl rfl rfl rfl rfl rfl v_MO_isUnit lk_MO_111 rfl rfl (c_MO_isUnitV (v := 1) v0 ?_)
  refine Ev_istore_n (pc := 5) d_MO_giveBack_5 rfl ?_
  refine Ev_aload_n (pc := 6) d_MO_giveBack_6 rfl ?_
  refine Ev_iload_n (pc := 7) d_MO_giveBack_7 rfl ?_
  refine Ev_if_ne (tgt := 15) (pc := 8) d_MO_giveBack_8 rfl (fun _ => ?_) (fun q => absurd q (by decide))
  refine Ev_iconst (v := 0) (pc := 15) d_MO_giveBack_15 (by decide) ?_
  refine Ev_iload_n (pc := 16) d_MO_giveBack_16 rfl ?_
  refine Ev_if_eq (tgt := 50) (pc := 17) d_MO_giveBack_17 rfl (fun q => absurd q (by decide)) (fun _ => ?_)
  refine Ev_aload_n (pc := 20) d_MO_giveBack_20 rfl ?_
  refine Ev_getR (pc := 21) d_MO_giveBack_21 rfl rfl rfl fl_MO_34 (rf_MO_11 hR) ?_
  refine Ev_iload_n (pc := 24) d_MO_giveBack_24 rfl ?_
  refine Ev_iald (pc := 25) d_MO_giveBack_25 rfl rfl n2 n3 ?_
  refine Ev_iconst (v := 2) (pc := 26) d_MO_giveBack_26 (by decide) ?_
  refine Ev_icmp_ne (tgt := 46) (pc := 27) d_MO_giveBack_27 rfl (fun q1 => ?_) (fun q1 => ?_)
  · refine Ev_iconst (v := 1) (pc := 46) d_MO_giveBack_46 (by decide) ?_
    refine Ev_goto (tgt := 51) (pc := 47) d_MO_giveBack_47 rfl ?_
    rw [f_MO_giveBack_1] at k
    have j := c_MO_giveBack_1_51 (E := E) (P := P) (h := h) (x1 := x1) hR n2 n3 k
    rw [m_MO_giveBack_1_51, if_neg q1] at j
    exact j
  · refine Ev_aload_n (pc := 30) d_MO_giveBack_30 rfl ?_
    refine Ev_getI (pc := 31) d_MO_giveBack_31 rfl rfl rfl fl_MO_89 ?_
    refine Ev_aload_n (pc := 34) d_MO_giveBack_34 rfl ?_
    refine Ev_getR (pc := 35) d_MO_giveBack_35 rfl rfl rfl fl_MO_40 (rf_MO_13 hR) ?_
    refine Ev_iload_n (pc := 38) d_MO_giveBack_38 rfl ?_
    refine Ev_iald (pc := 39) d_MO_giveBack_39 rfl rfl n2 n3 ?_
    refine Ev_isub (pc := 40) d_MO_giveBack_40 ?_
    refine Ev_bipush (v := 30) (pc := 41) d_MO_giveBack_41 (by decide) ?_
    refine Ev_icmp_lt (tgt := 50) (pc := 43) d_MO_giveBack_43 rfl (fun q4 => ?_) (fun q4 => ?_)
    · refine Ev_iconst (v := 0) (pc := 50) d_MO_giveBack_50 (by decide) ?_
      rw [f_MO_giveBack_1] at k
      have j := c_MO_giveBack_1_51 (E := E) (P := P) (h := h) (x1 := x1) hR n2 n3 k
      rw [m_MO_giveBack_1_51, if_pos q1, if_pos q4] at j
      exact j
    · refine Ev_iconst (v := 1) (pc := 46) d_MO_giveBack_46 (by decide) ?_
      refine Ev_goto (tgt := 51) (pc := 47) d_MO_giveBack_47 rfl ?_
      rw [f_MO_giveBack_1] at k
      have j := c_MO_giveBack_1_51 (E := E) (P := P) (h := h) (x1 := x1) hR n2 n3 k
      rw [m_MO_giveBack_1_51, if_pos q1, if_neg q4] at j
      exact j
def f_MO_giveBack_0 (h : ev_H) (x1 : Int32) : Int32 × ev_H := (0, (sI h 0 6 0 1))
theorem c_MO_giveBack_0 {E : ev_E} {P : Option ev_V ⊕ Nat → ev_H → Prop} {h : ev_H} {x1 : Int32} (v0 : f_MO_isUnit h x1 = 0) (k : P (.inl (some (vI (f_MO_giveBack_0 h x1).1))) (f_MO_giveBack_0 h x1).2) : Ev E M_MO_giveBack 0 [(0, vR 0 6), (1, vI x1)] [] h P := by
  refine Ev_aload_n (pc := 0) d_MO_giveBack_0 rfl ?_
  refine Ev_iload_n (pc := 1) d_MO_giveBack_1 rfl ?_
  refine Ev_callV (M' := M_MO_isUnit) (as := [vI x1]) (st := []) (a := 0) (i := 6) (pc := 2) d_MO_giveBack_2 rfl rfl rfl rfl rfl rfl rfl v_MO_isUnit lk_MO_111 rfl rfl (c_MO_isUnitV (v := 0) v0 ?_)
  refine Ev_istore_n (pc := 5) d_MO_giveBack_5 rfl ?_
  refine Ev_aload_n (pc := 6) d_MO_giveBack_6 rfl ?_
  refine Ev_iload_n (pc := 7) d_MO_giveBack_7 rfl ?_
  refine Ev_if_ne (tgt := 15) (pc := 8) d_MO_giveBack_8 rfl (fun q => absurd q (by decide)) (fun _ => ?_)
  refine Ev_iconst (v := 1) (pc := 11) d_MO_giveBack_11 (by decide) ?_
  refine Ev_goto (tgt := 16) (pc := 12) d_MO_giveBack_12 rfl ?_
  refine Ev_iload_n (pc := 16) d_MO_giveBack_16 rfl ?_
  refine Ev_if_eq (tgt := 50) (pc := 17) d_MO_giveBack_17 rfl (fun _ => ?_) (fun q => absurd q (by decide))
  refine Ev_iconst (v := 0) (pc := 50) d_MO_giveBack_50 (by decide) ?_
  refine Ev_iconst (v := 0) (pc := 51) d_MO_giveBack_51 (by decide) ?_
  refine Ev_iconst (v := 0) (pc := 52) d_MO_giveBack_52 (by decide) ?_
  refine Ev_callV (M' := M_MO_refused) (as := [vI 1, vI 0, vI 0, vI 0]) (st := []) (a := 0) (i := 6) (pc := 53) d_MO_giveBack_53 rfl rfl rfl rfl rfl rfl rfl v_MO_refused lk_MO_85 rfl rfl (c_MO_refused1  ?_)
  refine Ev_if_eq (tgt := 61) (pc := 56) d_MO_giveBack_56 rfl (fun q => absurd q (by decide)) (fun _ => ?_)
  refine Ev_iconst (v := 0) (pc := 59) d_MO_giveBack_59 (by decide) ?_
  refine Ev_ireturn (pc := 60) d_MO_giveBack_60 rfl rfl ?_
  rw [f_MO_giveBack_0] at k
  exact k
def m_MO_transfused_1_35 (h : ev_H) (x1 : Int32) : Int32 := (if (gI h 0 15 x1.toNatClampNeg) = 2 then 0 else 1)
def f_MO_transfused_1_35 (h : ev_H) (x1 : Int32) : Int32 × ev_H := ((if ((f_MO_refused h 0 (m_MO_transfused_1_35 h x1) 0 0).1) = 0 then (gI (sI ((f_MO_refused h 0 (m_MO_transfused_1_35 h x1) 0 0).2) 0 15 x1.toNatClampNeg 3) 0 16 x1.toNatClampNeg) else 0), (if ((f_MO_refused h 0 (m_MO_transfused_1_35 h x1) 0 0).1) = 0 then (sI ((f_MO_refused h 0 (m_MO_transfused_1_35 h x1) 0 0).2) 0 15 x1.toNatClampNeg 3) else ((f_MO_refused h 0 (m_MO_transfused_1_35 h x1) 0 0).2)))
theorem c_MO_transfused_1_35 {E : ev_E} {P : Option ev_V ⊕ Nat → ev_H → Prop} {h : ev_H} {x1 : Int32} (hR : rfs h) (n1 : ¬ x1 < 0) (n2 : x1.toNatClampNeg < 48) (k : P (.inl (some (vI (f_MO_transfused_1_35 h x1).1))) (f_MO_transfused_1_35 h x1).2) : Ev E M_MO_transfused 35 [(0, vR 0 6), (1, vI x1), (2, vI 1)] [vI (m_MO_transfused_1_35 h x1), vI 0, vR 0 6] h P := by
  refine Ev_iconst (v := 0) (pc := 35) d_MO_transfused_35 (by decide) ?_
  refine Ev_iconst (v := 0) (pc := 36) d_MO_transfused_36 (by decide) ?_
  refine Ev_callV (M' := M_MO_refused) (as := [vI 0, vI (m_MO_transfused_1_35 h x1), vI 0, vI 0]) (st := []) (a := 0) (i := 6) (pc := 37) d_MO_transfused_37 rfl rfl rfl rfl rfl rfl rfl v_MO_refused lk_MO_85 rfl rfl (c_MO_refused  ?_)
  refine Ev_if_eq (tgt := 45) (pc := 40) d_MO_transfused_40 rfl (fun q2 => ?_) (fun q2 => ?_)
  · refine Ev_aload_n (pc := 45) d_MO_transfused_45 rfl ?_
    refine Ev_getR (pc := 46) d_MO_transfused_46 rfl rfl rfl fl_MO_34 (rf_MO_11 hR) ?_
    refine Ev_iload_n (pc := 49) d_MO_transfused_49 rfl ?_
    refine Ev_iconst (v := 3) (pc := 50) d_MO_transfused_50 (by decide) ?_
    refine Ev_iast (pc := 51) d_MO_transfused_51 rfl rfl n1 n2 ?_
    refine Ev_aload_n (pc := 52) d_MO_transfused_52 rfl ?_
    refine Ev_getR (pc := 53) d_MO_transfused_53 rfl rfl rfl fl_MO_37 (rf_MO_12 hR) ?_
    refine Ev_iload_n (pc := 56) d_MO_transfused_56 rfl ?_
    refine Ev_iald (pc := 57) d_MO_transfused_57 rfl rfl n1 n2 ?_
    refine Ev_ireturn (pc := 58) d_MO_transfused_58 rfl rfl ?_
    simp only [f_MO_transfused_1_35, if_pos q2] at k
    exact k
  · refine Ev_iconst (v := 0) (pc := 43) d_MO_transfused_43 (by decide) ?_
    refine Ev_ireturn (pc := 44) d_MO_transfused_44 rfl rfl ?_
    simp only [f_MO_transfused_1_35, if_neg q2] at k
    exact k
def f_MO_transfused_1 (h : ev_H) (x1 : Int32) : Int32 × ev_H := f_MO_transfused_1_35 h x1
theorem c_MO_transfused_1 {E : ev_E} {P : Option ev_V ⊕ Nat → ev_H → Prop} {h : ev_H} {x1 : Int32} (v0 : f_MO_isUnit h x1 = 1) (hR : rfs h) (n2 : ¬ x1 < 0) (n3 : x1.toNatClampNeg < 48) (k : P (.inl (some (vI (f_MO_transfused_1 h x1).1))) (f_MO_transfused_1 h x1).2) : Ev E M_MO_transfused 0 [(0, vR 0 6), (1, vI x1)] [] h P := by
  refine Ev_aload_n (pc := 0) d_MO_transfused_0 rfl ?_
  refine Ev_iload_n (pc := 1) d_MO_transfused_1 rfl ?_
  refine Ev_callV (M' := M_MO_isUnit) (as := [vI x1]) (st := []) (a := 0) (i := 6) (pc := 2) d_MO_transfused_2 rfl rfl rfl rfl rfl rfl rfl v_MO_isUnit lk_MO_111 rfl rfl (c_MO_isUnitV (v := 1) v0 ?_)
  refine Ev_istore_n (pc := 5) d_MO_transfused_5 rfl ?_
  refine Ev_aload_n (pc := 6) d_MO_transfused_6 rfl ?_
  refine Ev_iload_n (pc := 7) d_MO_transfused_7 rfl ?_
  refine Ev_if_ne (tgt := 15) (pc := 8) d_MO_transfused_8 rfl (fun _ => ?_) (fun q => absurd q (by decide))
  refine Ev_iconst (v := 0) (pc := 15) d_MO_transfused_15 (by decide) ?_
  refine Ev_iload_n (pc := 16) d_MO_transfused_16 rfl ?_
  refine Ev_if_eq (tgt := 34) (pc := 17) d_MO_transfused_17 rfl (fun q => absurd q (by decide)) (fun _ => ?_)
  refine Ev_aload_n (pc := 20) d_MO_transfused_20 rfl ?_
  refine Ev_getR (pc := 21) d_MO_transfused_21 rfl rfl rfl fl_MO_34 (rf_MO_11 hR) ?_
  refine Ev_iload_n (pc := 24) d_MO_transfused_24 rfl ?_
  refine Ev_iald (pc := 25) d_MO_transfused_25 rfl rfl n2 n3 ?_
  refine Ev_iconst (v := 2) (pc := 26) d_MO_transfused_26 (by decide) ?_
  refine Ev_icmp_eq (tgt := 34) (pc := 27) d_MO_transfused_27 rfl (fun q1 => ?_) (fun q1 => ?_)
  · refine Ev_iconst (v := 0) (pc := 34) d_MO_transfused_34 (by decide) ?_
    rw [f_MO_transfused_1] at k
    have j := c_MO_transfused_1_35 (E := E) (P := P) (h := h) (x1 := x1) hR n2 n3 k
    rw [m_MO_transfused_1_35, if_pos q1] at j
    exact j
  · refine Ev_iconst (v := 1) (pc := 30) d_MO_transfused_30 (by decide) ?_
    refine Ev_goto (tgt := 35) (pc := 31) d_MO_transfused_31 rfl ?_
    rw [f_MO_transfused_1] at k
    have j := c_MO_transfused_1_35 (E := E) (P := P) (h := h) (x1 := x1) hR n2 n3 k
    rw [m_MO_transfused_1_35, if_neg q1] at j
    exact j
def f_MO_transfused_0 (h : ev_H) (x1 : Int32) : Int32 × ev_H := (0, (sI h 0 6 0 1))
theorem c_MO_transfused_0 {E : ev_E} {P : Option ev_V ⊕ Nat → ev_H → Prop} {h : ev_H} {x1 : Int32} (v0 : f_MO_isUnit h x1 = 0) (k : P (.inl (some (vI (f_MO_transfused_0 h x1).1))) (f_MO_transfused_0 h x1).2) : Ev E M_MO_transfused 0 [(0, vR 0 6), (1, vI x1)] [] h P := by
  refine Ev_aload_n (pc := 0) d_MO_transfused_0 rfl ?_
  refine Ev_iload_n (pc := 1) d_MO_transfused_1 rfl ?_
  refine Ev_callV (M' := M_MO_isUnit) (as := [vI x1]) (st := []) (a := 0) (i := 6) (pc := 2) d_MO_transfused_2 rfl rfl rfl rfl rfl rfl rfl v_MO_isUnit lk_MO_111 rfl rfl (c_MO_isUnitV (v := 0) v0 ?_)
  refine Ev_istore_n (pc := 5) d_MO_transfused_5 rfl ?_
  refine Ev_aload_n (pc := 6) d_MO_transfused_6 rfl ?_
  refine Ev_iload_n (pc := 7) d_MO_transfused_7 rfl ?_
  refine Ev_if_ne (tgt := 15) (pc := 8) d_MO_transfused_8 rfl (fun q => absurd q (by decide)) (fun _ => ?_)
  refine Ev_iconst (v := 1) (pc := 11) d_MO_transfused_11 (by decide) ?_
  refine Ev_goto (tgt := 16) (pc := 12) d_MO_transfused_12 rfl ?_
  refine Ev_iload_n (pc := 16) d_MO_transfused_16 rfl ?_
  refine Ev_if_eq (tgt := 34) (pc := 17) d_MO_transfused_17 rfl (fun _ => ?_) (fun q => absurd q (by decide))
  refine Ev_iconst (v := 0) (pc := 34) d_MO_transfused_34 (by decide) ?_
  refine Ev_iconst (v := 0) (pc := 35) d_MO_transfused_35 (by decide) ?_
  refine Ev_iconst (v := 0) (pc := 36) d_MO_transfused_36 (by decide) ?_
  refine Ev_callV (M' := M_MO_refused) (as := [vI 1, vI 0, vI 0, vI 0]) (st := []) (a := 0) (i := 6) (pc := 37) d_MO_transfused_37 rfl rfl rfl rfl rfl rfl rfl v_MO_refused lk_MO_85 rfl rfl (c_MO_refused1  ?_)
  refine Ev_if_eq (tgt := 45) (pc := 40) d_MO_transfused_40 rfl (fun q => absurd q (by decide)) (fun _ => ?_)
  refine Ev_iconst (v := 0) (pc := 43) d_MO_transfused_43 (by decide) ?_
  refine Ev_ireturn (pc := 44) d_MO_transfused_44 rfl rfl ?_
  rw [f_MO_transfused_0] at k
  exact k
def m_MO_discard_1_30 (x1 : Int32) (x2 : Int32) : Int32 := (if (f_MO_in x2 1 5) = 0 then 1 else 0)
def m_MO_discard_1_48 (h : ev_H) (x1 : Int32) (x2 : Int32) : Int32 := (if (f_MO_stateOf h x1) ≤ 2 then 0 else 1)
def f_MO_discard_1_48 (h : ev_H) (x1 : Int32) (x2 : Int32) : Int32 × ev_H := ((if ((f_MO_refused h 0 (m_MO_discard_1_30 x1 x2) (m_MO_discard_1_48 h x1 x2) 0).1) = 0 then (f_MO_stateOf ((f_MO_refused h 0 (m_MO_discard_1_30 x1 x2) (m_MO_discard_1_48 h x1 x2) 0).2) x1) else 0), (if ((f_MO_refused h 0 (m_MO_discard_1_30 x1 x2) (m_MO_discard_1_48 h x1 x2) 0).1) = 0 then (sI (sI ((f_MO_refused h 0 (m_MO_discard_1_30 x1 x2) (m_MO_discard_1_48 h x1 x2) 0).2) 0 15 x1.toNatClampNeg 4) 0 20 x1.toNatClampNeg x2) else ((f_MO_refused h 0 (m_MO_discard_1_30 x1 x2) (m_MO_discard_1_48 h x1 x2) 0).2)))
theorem c_MO_discard_1_48 {E : ev_E} {P : Option ev_V ⊕ Nat → ev_H → Prop} {h : ev_H} {x1 : Int32} {x2 : Int32} (hR : rfs h) (n1 : ¬ x1 < 0) (n2 : x1.toNatClampNeg < 48) (k : P (.inl (some (vI (f_MO_discard_1_48 h x1 x2).1))) (f_MO_discard_1_48 h x1 x2).2) : Ev E M_MO_discard 48 [(0, vR 0 6), (1, vI x1), (2, vI x2), (3, vI 1)] [vI (m_MO_discard_1_48 h x1 x2), vI (m_MO_discard_1_30 x1 x2), vI 0, vR 0 6] h P := by
  refine Ev_iconst (v := 0) (pc := 48) d_MO_discard_48 (by decide) ?_
  refine Ev_callV (M' := M_MO_refused) (as := [vI 0, vI (m_MO_discard_1_30 x1 x2), vI (m_MO_discard_1_48 h x1 x2), vI 0]) (st := []) (a := 0) (i := 6) (pc := 49) d_MO_discard_49 rfl rfl rfl rfl rfl rfl rfl v_MO_refused lk_MO_85 rfl rfl (c_MO_refused  ?_)
  refine Ev_if_eq (tgt := 57) (pc := 52) d_MO_discard_52 rfl (fun q3 => ?_) (fun q3 => ?_)
  · refine Ev_aload_n (pc := 57) d_MO_discard_57 rfl ?_
    refine Ev_iload_n (pc := 58) d_MO_discard_58 rfl ?_
    refine Ev_callV (M' := M_MO_stateOf) (as := [vI x1]) (st := []) (a := 0) (i := 6) (pc := 59) d_MO_discard_59 rfl rfl rfl rfl rfl rfl rfl v_MO_stateOf lk_MO_95 rfl rfl (c_MO_stateOf hR n1 n2 ?_)
    refine Ev_istore (pc := 62) d_MO_discard_62 rfl ?_
    refine Ev_aload_n (pc := 64) d_MO_discard_64 rfl ?_
    refine Ev_getR (pc := 65) d_MO_discard_65 rfl rfl rfl fl_MO_34 (rf_MO_11 hR) ?_
    refine Ev_iload_n (pc := 68) d_MO_discard_68 rfl ?_
    refine Ev_iconst (v := 4) (pc := 69) d_MO_discard_69 (by decide) ?_
    refine Ev_iast (pc := 70) d_MO_discard_70 rfl rfl n1 n2 ?_
    refine Ev_aload_n (pc := 71) d_MO_discard_71 rfl ?_
    refine Ev_getR (pc := 72) d_MO_discard_72 rfl rfl rfl fl_MO_49 (rf_MO_16 hR) ?_
    refine Ev_iload_n (pc := 75) d_MO_discard_75 rfl ?_
    refine Ev_iload_n (pc := 76) d_MO_discard_76 rfl ?_
    refine Ev_iast (pc := 77) d_MO_discard_77 rfl rfl n1 n2 ?_
    refine Ev_iload (pc := 78) d_MO_discard_78 rfl ?_
    refine Ev_ireturn (pc := 80) d_MO_discard_80 rfl rfl ?_
    simp only [f_MO_discard_1_48, if_pos q3] at k
    exact k
  · refine Ev_iconst (v := 0) (pc := 55) d_MO_discard_55 (by decide) ?_
    refine Ev_ireturn (pc := 56) d_MO_discard_56 rfl rfl ?_
    simp only [f_MO_discard_1_48, if_neg q3] at k
    exact k
def f_MO_discard_1_30 (h : ev_H) (x1 : Int32) (x2 : Int32) : Int32 × ev_H := f_MO_discard_1_48 h x1 x2
theorem c_MO_discard_1_30 {E : ev_E} {P : Option ev_V ⊕ Nat → ev_H → Prop} {h : ev_H} {x1 : Int32} {x2 : Int32} (hR : rfs h) (n1 : ¬ x1 < 0) (n2 : x1.toNatClampNeg < 48) (k : P (.inl (some (vI (f_MO_discard_1_30 h x1 x2).1))) (f_MO_discard_1_30 h x1 x2).2) : Ev E M_MO_discard 30 [(0, vR 0 6), (1, vI x1), (2, vI x2), (3, vI 1)] [vI (m_MO_discard_1_30 x1 x2), vI 0, vR 0 6] h P := by
  refine Ev_iload_n (pc := 30) d_MO_discard_30 rfl ?_
  refine Ev_if_eq (tgt := 47) (pc := 31) d_MO_discard_31 rfl (fun q => absurd q (by decide)) (fun _ => ?_)
  refine Ev_aload_n (pc := 34) d_MO_discard_34 rfl ?_
  refine Ev_iload_n (pc := 35) d_MO_discard_35 rfl ?_
  refine Ev_callV (M' := M_MO_stateOf) (as := [vI x1]) (st := [vI (m_MO_discard_1_30 x1 x2), vI 0, vR 0 6]) (a := 0) (i := 6) (pc := 36) d_MO_discard_36 rfl rfl rfl rfl rfl rfl rfl v_MO_stateOf lk_MO_95 rfl rfl (c_MO_stateOf hR n1 n2 ?_)
  refine Ev_iconst (v := 2) (pc := 39) d_MO_discard_39 (by decide) ?_
  refine Ev_icmp_le (tgt := 47) (pc := 40) d_MO_discard_40 rfl (fun q2 => ?_) (fun q2 => ?_)
  · refine Ev_iconst (v := 0) (pc := 47) d_MO_discard_47 (by decide) ?_
    rw [f_MO_discard_1_30] at k
    have j := c_MO_discard_1_48 (E := E) (P := P) (h := h) (x1 := x1) (x2 := x2) hR n1 n2 k
    rw [m_MO_discard_1_48, if_pos q2] at j
    exact j
  · refine Ev_iconst (v := 1) (pc := 43) d_MO_discard_43 (by decide) ?_
    refine Ev_goto (tgt := 48) (pc := 44) d_MO_discard_44 rfl ?_
    rw [f_MO_discard_1_30] at k
    have j := c_MO_discard_1_48 (E := E) (P := P) (h := h) (x1 := x1) (x2 := x2) hR n1 n2 k
    rw [m_MO_discard_1_48, if_neg q2] at j
    exact j
def f_MO_discard_1 (h : ev_H) (x1 : Int32) (x2 : Int32) : Int32 × ev_H := f_MO_discard_1_30 h x1 x2
theorem c_MO_discard_1 {E : ev_E} {P : Option ev_V ⊕ Nat → ev_H → Prop} {h : ev_H} {x1 : Int32} {x2 : Int32} (v0 : f_MO_isUnit h x1 = 1) (hR : rfs h) (n2 : ¬ x1 < 0) (n3 : x1.toNatClampNeg < 48) (k : P (.inl (some (vI (f_MO_discard_1 h x1 x2).1))) (f_MO_discard_1 h x1 x2).2) : Ev E M_MO_discard 0 [(0, vR 0 6), (1, vI x1), (2, vI x2)] [] h P := by
  refine Ev_aload_n (pc := 0) d_MO_discard_0 rfl ?_
  refine Ev_iload_n (pc := 1) d_MO_discard_1 rfl ?_
  refine Ev_callV (M' := M_MO_isUnit) (as := [vI x1]) (st := []) (a := 0) (i := 6) (pc := 2) d_MO_discard_2 rfl rfl rfl rfl rfl rfl rfl v_MO_isUnit lk_MO_111 rfl rfl (c_MO_isUnitV (v := 1) v0 ?_)
  refine Ev_istore_n (pc := 5) d_MO_discard_5 rfl ?_
  refine Ev_aload_n (pc := 6) d_MO_discard_6 rfl ?_
  refine Ev_iload_n (pc := 7) d_MO_discard_7 rfl ?_
  refine Ev_if_ne (tgt := 15) (pc := 8) d_MO_discard_8 rfl (fun _ => ?_) (fun q => absurd q (by decide))
  refine Ev_iconst (v := 0) (pc := 15) d_MO_discard_15 (by decide) ?_
  refine Ev_iload_n (pc := 16) d_MO_discard_16 rfl ?_
  refine Ev_iconst (v := 1) (pc := 17) d_MO_discard_17 (by decide) ?_
  refine Ev_iconst (v := 5) (pc := 18) d_MO_discard_18 (by decide) ?_
  refine Ev_callS (M' := M_MO_in) (as := [vI x2, vI 1, vI 5]) (st := [vI 0, vR 0 6]) (pc := 19) d_MO_discard_19 rfl rfl rfl s_MO_in lk_MO_77 rfl rfl (c_MO_in  ?_)
  refine Ev_if_ne (tgt := 29) (pc := 22) d_MO_discard_22 rfl (fun q1 => ?_) (fun q1 => ?_)
  · refine Ev_iconst (v := 0) (pc := 29) d_MO_discard_29 (by decide) ?_
    rw [f_MO_discard_1] at k
    have j := c_MO_discard_1_30 (E := E) (P := P) (h := h) (x1 := x1) (x2 := x2) hR n2 n3 k
    rw [m_MO_discard_1_30, if_neg q1] at j
    exact j
  · refine Ev_iconst (v := 1) (pc := 25) d_MO_discard_25 (by decide) ?_
    refine Ev_goto (tgt := 30) (pc := 26) d_MO_discard_26 rfl ?_
    rw [f_MO_discard_1] at k
    have j := c_MO_discard_1_30 (E := E) (P := P) (h := h) (x1 := x1) (x2 := x2) hR n2 n3 k
    rw [m_MO_discard_1_30, if_pos q1] at j
    exact j
def m_MO_discard_0_30 (x1 : Int32) (x2 : Int32) : Int32 := (if (f_MO_in x2 1 5) = 0 then 1 else 0)
def f_MO_discard_0_30 (h : ev_H) (x1 : Int32) (x2 : Int32) : Int32 × ev_H := (0, (sI h 0 6 0 1))
theorem c_MO_discard_0_30 {E : ev_E} {P : Option ev_V ⊕ Nat → ev_H → Prop} {h : ev_H} {x1 : Int32} {x2 : Int32} (k : P (.inl (some (vI (f_MO_discard_0_30 h x1 x2).1))) (f_MO_discard_0_30 h x1 x2).2) : Ev E M_MO_discard 30 [(0, vR 0 6), (1, vI x1), (2, vI x2), (3, vI 0)] [vI (m_MO_discard_0_30 x1 x2), vI 1, vR 0 6] h P := by
  refine Ev_iload_n (pc := 30) d_MO_discard_30 rfl ?_
  refine Ev_if_eq (tgt := 47) (pc := 31) d_MO_discard_31 rfl (fun _ => ?_) (fun q => absurd q (by decide))
  refine Ev_iconst (v := 0) (pc := 47) d_MO_discard_47 (by decide) ?_
  refine Ev_iconst (v := 0) (pc := 48) d_MO_discard_48 (by decide) ?_
  refine Ev_callV (M' := M_MO_refused) (as := [vI 1, vI (m_MO_discard_0_30 x1 x2), vI 0, vI 0]) (st := []) (a := 0) (i := 6) (pc := 49) d_MO_discard_49 rfl rfl rfl rfl rfl rfl rfl v_MO_refused lk_MO_85 rfl rfl (c_MO_refused1  ?_)
  refine Ev_if_eq (tgt := 57) (pc := 52) d_MO_discard_52 rfl (fun q => absurd q (by decide)) (fun _ => ?_)
  refine Ev_iconst (v := 0) (pc := 55) d_MO_discard_55 (by decide) ?_
  refine Ev_ireturn (pc := 56) d_MO_discard_56 rfl rfl ?_
  rw [f_MO_discard_0_30] at k
  exact k
def f_MO_discard_0 (h : ev_H) (x1 : Int32) (x2 : Int32) : Int32 × ev_H := f_MO_discard_0_30 h x1 x2
theorem c_MO_discard_0 {E : ev_E} {P : Option ev_V ⊕ Nat → ev_H → Prop} {h : ev_H} {x1 : Int32} {x2 : Int32} (v0 : f_MO_isUnit h x1 = 0) (k : P (.inl (some (vI (f_MO_discard_0 h x1 x2).1))) (f_MO_discard_0 h x1 x2).2) : Ev E M_MO_discard 0 [(0, vR 0 6), (1, vI x1), (2, vI x2)] [] h P := by
  refine Ev_aload_n (pc := 0) d_MO_discard_0 rfl ?_
  refine Ev_iload_n (pc := 1) d_MO_discard_1 rfl ?_
  refine Ev_callV (M' := M_MO_isUnit) (as := [vI x1]) (st := []) (a := 0) (i := 6) (pc := 2) d_MO_discard_2 rfl rfl rfl rfl rfl rfl rfl v_MO_isUnit lk_MO_111 rfl rfl (c_MO_isUnitV (v := 0) v0 ?_)
  refine Ev_istore_n (pc := 5) d_MO_discard_5 rfl ?_
  refine Ev_aload_n (pc := 6) d_MO_discard_6 rfl ?_
  refine Ev_iload_n (pc := 7) d_MO_discard_7 rfl ?_
  refine Ev_if_ne (tgt := 15) (pc := 8) d_MO_discard_8 rfl (fun q => absurd q (by decide)) (fun _ => ?_)
  refine Ev_iconst (v := 1) (pc := 11) d_MO_discard_11 (by decide) ?_
  refine Ev_goto (tgt := 16) (pc := 12) d_MO_discard_12 rfl ?_
  refine Ev_iload_n (pc := 16) d_MO_discard_16 rfl ?_
  refine Ev_iconst (v := 1) (pc := 17) d_MO_discard_17 (by decide) ?_
  refine Ev_iconst (v := 5) (pc := 18) d_MO_discard_18 (by decide) ?_
  refine Ev_callS (M' := M_MO_in) (as := [vI x2, vI 1, vI 5]) (st := [vI 1, vR 0 6]) (pc := 19) d_MO_discard_19 rfl rfl rfl s_MO_in lk_MO_77 rfl rfl (c_MO_in  ?_)
  refine Ev_if_ne (tgt := 29) (pc := 22) d_MO_discard_22 rfl (fun q1 => ?_) (fun q1 => ?_)
  · refine Ev_iconst (v := 0) (pc := 29) d_MO_discard_29 (by decide) ?_
    rw [f_MO_discard_0] at k
    have j := c_MO_discard_0_30 (E := E) (P := P) (h := h) (x1 := x1) (x2 := x2)  k
    rw [m_MO_discard_0_30, if_neg q1] at j
    exact j
  · refine Ev_iconst (v := 1) (pc := 25) d_MO_discard_25 (by decide) ?_
    refine Ev_goto (tgt := 30) (pc := 26) d_MO_discard_26 rfl ?_
    rw [f_MO_discard_0] at k
    have j := c_MO_discard_0_30 (E := E) (P := P) (h := h) (x1 := x1) (x2 := x2)  k
    rw [m_MO_discard_0_30, if_pos q1] at j
    exact j
def m_MO_of_1_29 (x1 : Int32) (x2 : Int32) : Int32 := (if (f_MO_in x2 0 9) = 0 then 1 else 0)
def f_MO_of_1_29 (h : ev_H) (x1 : Int32) (x2 : Int32) : Int32 × ev_H := ((if ((f_MO_refused h 0 (m_MO_of_1_29 x1 x2) 0 0).1) = 0 then (f_MO_field ((f_MO_refused h 0 (m_MO_of_1_29 x1 x2) 0 0).2) x1 x2) else 0), ((f_MO_refused h 0 (m_MO_of_1_29 x1 x2) 0 0).2))
theorem c_MO_of_1_29 {E : ev_E} {P : Option ev_V ⊕ Nat → ev_H → Prop} {h : ev_H} {x1 : Int32} {x2 : Int32} (hR : rfs h) (n1 : ¬ x1 < 0) (n2 : x1.toNatClampNeg < 48) (k : P (.inl (some (vI (f_MO_of_1_29 h x1 x2).1))) (f_MO_of_1_29 h x1 x2).2) : Ev E M_MO_of 29 [(0, vR 0 6), (1, vI x1), (2, vI x2)] [vI (m_MO_of_1_29 x1 x2), vI 0, vR 0 6] h P := by
  refine Ev_iconst (v := 0) (pc := 29) d_MO_of_29 (by decide) ?_
  refine Ev_iconst (v := 0) (pc := 30) d_MO_of_30 (by decide) ?_
  refine Ev_callV (M' := M_MO_refused) (as := [vI 0, vI (m_MO_of_1_29 x1 x2), vI 0, vI 0]) (st := []) (a := 0) (i := 6) (pc := 31) d_MO_of_31 rfl rfl rfl rfl rfl rfl rfl v_MO_refused lk_MO_85 rfl rfl (c_MO_refused  ?_)
  refine Ev_if_eq (tgt := 41) (pc := 34) d_MO_of_34 rfl (fun q2 => ?_) (fun q2 => ?_)
  · refine Ev_aload_n (pc := 41) d_MO_of_41 rfl ?_
    refine Ev_iload_n (pc := 42) d_MO_of_42 rfl ?_
    refine Ev_iload_n (pc := 43) d_MO_of_43 rfl ?_
    refine Ev_callV (M' := M_MO_field) (as := [vI x1, vI x2]) (st := []) (a := 0) (i := 6) (pc := 44) d_MO_of_44 rfl rfl rfl rfl rfl rfl rfl v_MO_field lk_MO_144 rfl rfl (c_MO_field hR n1 n2 ?_)
    refine Ev_ireturn (pc := 47) d_MO_of_47 rfl rfl ?_
    simp only [f_MO_of_1_29, if_pos q2] at k
    exact k
  · refine Ev_iconst (v := 0) (pc := 37) d_MO_of_37 (by decide) ?_
    refine Ev_goto (tgt := 47) (pc := 38) d_MO_of_38 rfl ?_
    refine Ev_ireturn (pc := 47) d_MO_of_47 rfl rfl ?_
    simp only [f_MO_of_1_29, if_neg q2] at k
    exact k
def f_MO_of_1 (h : ev_H) (x1 : Int32) (x2 : Int32) : Int32 × ev_H := f_MO_of_1_29 h x1 x2
theorem c_MO_of_1 {E : ev_E} {P : Option ev_V ⊕ Nat → ev_H → Prop} {h : ev_H} {x1 : Int32} {x2 : Int32} (v0 : f_MO_isUnit h x1 = 1) (hR : rfs h) (n2 : ¬ x1 < 0) (n3 : x1.toNatClampNeg < 48) (k : P (.inl (some (vI (f_MO_of_1 h x1 x2).1))) (f_MO_of_1 h x1 x2).2) : Ev E M_MO_of 0 [(0, vR 0 6), (1, vI x1), (2, vI x2)] [] h P := by
  refine Ev_aload_n (pc := 0) d_MO_of_0 rfl ?_
  refine Ev_aload_n (pc := 1) d_MO_of_1 rfl ?_
  refine Ev_iload_n (pc := 2) d_MO_of_2 rfl ?_
  refine Ev_callV (M' := M_MO_isUnit) (as := [vI x1]) (st := [vR 0 6]) (a := 0) (i := 6) (pc := 3) d_MO_of_3 rfl rfl rfl rfl rfl rfl rfl v_MO_isUnit lk_MO_111 rfl rfl (c_MO_isUnitV (v := 1) v0 ?_)
  refine Ev_if_ne (tgt := 13) (pc := 6) d_MO_of_6 rfl (fun _ => ?_) (fun q => absurd q (by decide))
  refine Ev_iconst (v := 0) (pc := 13) d_MO_of_13 (by decide) ?_
  refine Ev_iload_n (pc := 14) d_MO_of_14 rfl ?_
  refine Ev_iconst (v := 0) (pc := 15) d_MO_of_15 (by decide) ?_
  refine Ev_bipush (v := 9) (pc := 16) d_MO_of_16 (by decide) ?_
  refine Ev_callS (M' := M_MO_in) (as := [vI x2, vI 0, vI 9]) (st := [vI 0, vR 0 6]) (pc := 18) d_MO_of_18 rfl rfl rfl s_MO_in lk_MO_77 rfl rfl (c_MO_in  ?_)
  refine Ev_if_ne (tgt := 28) (pc := 21) d_MO_of_21 rfl (fun q1 => ?_) (fun q1 => ?_)
  · refine Ev_iconst (v := 0) (pc := 28) d_MO_of_28 (by decide) ?_
    rw [f_MO_of_1] at k
    have j := c_MO_of_1_29 (E := E) (P := P) (h := h) (x1 := x1) (x2 := x2) hR n2 n3 k
    rw [m_MO_of_1_29, if_neg q1] at j
    exact j
  · refine Ev_iconst (v := 1) (pc := 24) d_MO_of_24 (by decide) ?_
    refine Ev_goto (tgt := 29) (pc := 25) d_MO_of_25 rfl ?_
    rw [f_MO_of_1] at k
    have j := c_MO_of_1_29 (E := E) (P := P) (h := h) (x1 := x1) (x2 := x2) hR n2 n3 k
    rw [m_MO_of_1_29, if_pos q1] at j
    exact j
def m_MO_of_0_29 (x1 : Int32) (x2 : Int32) : Int32 := (if (f_MO_in x2 0 9) = 0 then 1 else 0)
def f_MO_of_0_29 (h : ev_H) (x1 : Int32) (x2 : Int32) : Int32 × ev_H := (0, (sI h 0 6 0 1))
theorem c_MO_of_0_29 {E : ev_E} {P : Option ev_V ⊕ Nat → ev_H → Prop} {h : ev_H} {x1 : Int32} {x2 : Int32} (k : P (.inl (some (vI (f_MO_of_0_29 h x1 x2).1))) (f_MO_of_0_29 h x1 x2).2) : Ev E M_MO_of 29 [(0, vR 0 6), (1, vI x1), (2, vI x2)] [vI (m_MO_of_0_29 x1 x2), vI 1, vR 0 6] h P := by
  refine Ev_iconst (v := 0) (pc := 29) d_MO_of_29 (by decide) ?_
  refine Ev_iconst (v := 0) (pc := 30) d_MO_of_30 (by decide) ?_
  refine Ev_callV (M' := M_MO_refused) (as := [vI 1, vI (m_MO_of_0_29 x1 x2), vI 0, vI 0]) (st := []) (a := 0) (i := 6) (pc := 31) d_MO_of_31 rfl rfl rfl rfl rfl rfl rfl v_MO_refused lk_MO_85 rfl rfl (c_MO_refused1  ?_)
  refine Ev_if_eq (tgt := 41) (pc := 34) d_MO_of_34 rfl (fun q => absurd q (by decide)) (fun _ => ?_)
  refine Ev_iconst (v := 0) (pc := 37) d_MO_of_37 (by decide) ?_
  refine Ev_goto (tgt := 47) (pc := 38) d_MO_of_38 rfl ?_
  refine Ev_ireturn (pc := 47) d_MO_of_47 rfl rfl ?_
  rw [f_MO_of_0_29] at k
  exact k
def f_MO_of_0 (h : ev_H) (x1 : Int32) (x2 : Int32) : Int32 × ev_H := f_MO_of_0_29 h x1 x2
theorem c_MO_of_0 {E : ev_E} {P : Option ev_V ⊕ Nat → ev_H → Prop} {h : ev_H} {x1 : Int32} {x2 : Int32} (v0 : f_MO_isUnit h x1 = 0) (k : P (.inl (some (vI (f_MO_of_0 h x1 x2).1))) (f_MO_of_0 h x1 x2).2) : Ev E M_MO_of 0 [(0, vR 0 6), (1, vI x1), (2, vI x2)] [] h P := by
  refine Ev_aload_n (pc := 0) d_MO_of_0 rfl ?_
  refine Ev_aload_n (pc := 1) d_MO_of_1 rfl ?_
  refine Ev_iload_n (pc := 2) d_MO_of_2 rfl ?_
  refine Ev_callV (M' := M_MO_isUnit) (as := [vI x1]) (st := [vR 0 6]) (a := 0) (i := 6) (pc := 3) d_MO_of_3 rfl rfl rfl rfl rfl rfl rfl v_MO_isUnit lk_MO_111 rfl rfl (c_MO_isUnitV (v := 0) v0 ?_)
  refine Ev_if_ne (tgt := 13) (pc := 6) d_MO_of_6 rfl (fun q => absurd q (by decide)) (fun _ => ?_)
  refine Ev_iconst (v := 1) (pc := 9) d_MO_of_9 (by decide) ?_
  refine Ev_goto (tgt := 14) (pc := 10) d_MO_of_10 rfl ?_
  refine Ev_iload_n (pc := 14) d_MO_of_14 rfl ?_
  refine Ev_iconst (v := 0) (pc := 15) d_MO_of_15 (by decide) ?_
  refine Ev_bipush (v := 9) (pc := 16) d_MO_of_16 (by decide) ?_
  refine Ev_callS (M' := M_MO_in) (as := [vI x2, vI 0, vI 9]) (st := [vI 1, vR 0 6]) (pc := 18) d_MO_of_18 rfl rfl rfl s_MO_in lk_MO_77 rfl rfl (c_MO_in  ?_)
  refine Ev_if_ne (tgt := 28) (pc := 21) d_MO_of_21 rfl (fun q1 => ?_) (fun q1 => ?_)
  · refine Ev_iconst (v := 0) (pc := 28) d_MO_of_28 (by decide) ?_
    rw [f_MO_of_0] at k
    have j := c_MO_of_0_29 (E := E) (P := P) (h := h) (x1 := x1) (x2 := x2)  k
    rw [m_MO_of_0_29, if_neg q1] at j
    exact j
  · refine Ev_iconst (v := 1) (pc := 24) d_MO_of_24 (by decide) ?_
    refine Ev_goto (tgt := 29) (pc := 25) d_MO_of_25 rfl ?_
    rw [f_MO_of_0] at k
    have j := c_MO_of_0_29 (E := E) (P := P) (h := h) (x1 := x1) (x2 := x2)  k
    rw [m_MO_of_0_29, if_pos q1] at j
    exact j
def m_MO_has_1_29 (x1 : Int32) (x2 : Int32) : Int32 := (if (f_MO_in x2 0 7) = 0 then 1 else 0)
def f_MO_has_1_29 (h : ev_H) (x1 : Int32) (x2 : Int32) : Int32 × ev_H := ((if ((f_MO_refused h 0 (m_MO_has_1_29 x1 x2) 0 0).1) = 0 then (if (((gI ((f_MO_refused h 0 (m_MO_has_1_29 x1 x2) 0 0).2) 0 10 x1.toNatClampNeg) >>> (x2 &&& 31)) &&& 1) = 1 then 1 else (if (((gI ((f_MO_refused h 0 (m_MO_has_1_29 x1 x2) 0 0).2) 0 11 x1.toNatClampNeg) >>> (x2 &&& 31)) &&& 1) = 1 then 0 else 2)) else 0), ((f_MO_refused h 0 (m_MO_has_1_29 x1 x2) 0 0).2))
theorem c_MO_has_1_29 {E : ev_E} {P : Option ev_V ⊕ Nat → ev_H → Prop} {h : ev_H} {x1 : Int32} {x2 : Int32} (hR : rfs h) (n1 : ¬ x1 < 0) (n2 : x1.toNatClampNeg < 48) (k : P (.inl (some (vI (f_MO_has_1_29 h x1 x2).1))) (f_MO_has_1_29 h x1 x2).2) : Ev E M_MO_has 29 [(0, vR 0 6), (1, vI x1), (2, vI x2)] [vI (m_MO_has_1_29 x1 x2), vI 0, vR 0 6] h P := by
  refine Ev_iconst (v := 0) (pc := 29) d_MO_has_29 (by decide) ?_
  refine Ev_iconst (v := 0) (pc := 30) d_MO_has_30 (by decide) ?_
  refine Ev_callV (M' := M_MO_refused) (as := [vI 0, vI (m_MO_has_1_29 x1 x2), vI 0, vI 0]) (st := []) (a := 0) (i := 6) (pc := 31) d_MO_has_31 rfl rfl rfl rfl rfl rfl rfl v_MO_refused lk_MO_85 rfl rfl (c_MO_refused  ?_)
  refine Ev_if_eq (tgt := 39) (pc := 34) d_MO_has_34 rfl (fun q2 => ?_) (fun q2 => ?_)
  · refine Ev_aload_n (pc := 39) d_MO_has_39 rfl ?_
    refine Ev_getR (pc := 40) d_MO_has_40 rfl rfl rfl fl_MO_19 (rf_MO_6 hR) ?_
    refine Ev_iload_n (pc := 43) d_MO_has_43 rfl ?_
    refine Ev_iald (pc := 44) d_MO_has_44 rfl rfl n1 n2 ?_
    refine Ev_iload_n (pc := 45) d_MO_has_45 rfl ?_
    refine Ev_ishr (pc := 46) d_MO_has_46 ?_
    refine Ev_iconst (v := 1) (pc := 47) d_MO_has_47 (by decide) ?_
    refine Ev_iand (pc := 48) d_MO_has_48 ?_
    refine Ev_iconst (v := 1) (pc := 49) d_MO_has_49 (by decide) ?_
    refine Ev_icmp_ne (tgt := 57) (pc := 50) d_MO_has_50 rfl (fun q3 => ?_) (fun q3 => ?_)
    · refine Ev_aload_n (pc := 57) d_MO_has_57 rfl ?_
      refine Ev_getR (pc := 58) d_MO_has_58 rfl rfl rfl fl_MO_22 (rf_MO_7 hR) ?_
      refine Ev_iload_n (pc := 61) d_MO_has_61 rfl ?_
      refine Ev_iald (pc := 62) d_MO_has_62 rfl rfl n1 n2 ?_
      refine Ev_iload_n (pc := 63) d_MO_has_63 rfl ?_
      refine Ev_ishr (pc := 64) d_MO_has_64 ?_
      refine Ev_iconst (v := 1) (pc := 65) d_MO_has_65 (by decide) ?_
      refine Ev_iand (pc := 66) d_MO_has_66 ?_
      refine Ev_iconst (v := 1) (pc := 67) d_MO_has_67 (by decide) ?_
      refine Ev_icmp_ne (tgt := 75) (pc := 68) d_MO_has_68 rfl (fun q4 => ?_) (fun q4 => ?_)
      · refine Ev_iconst (v := 2) (pc := 75) d_MO_has_75 (by decide) ?_
        refine Ev_ireturn (pc := 76) d_MO_has_76 rfl rfl ?_
        simp only [f_MO_has_1_29, if_pos q2, if_neg q3, if_neg q4] at k
        exact k
      · refine Ev_iconst (v := 0) (pc := 71) d_MO_has_71 (by decide) ?_
        refine Ev_goto (tgt := 76) (pc := 72) d_MO_has_72 rfl ?_
        refine Ev_ireturn (pc := 76) d_MO_has_76 rfl rfl ?_
        simp only [f_MO_has_1_29, if_pos q2, if_neg q3, if_pos q4] at k
        exact k
    · refine Ev_iconst (v := 1) (pc := 53) d_MO_has_53 (by decide) ?_
      refine Ev_goto (tgt := 76) (pc := 54) d_MO_has_54 rfl ?_
      refine Ev_ireturn (pc := 76) d_MO_has_76 rfl rfl ?_
      simp only [f_MO_has_1_29, if_pos q2, if_pos q3] at k
      exact k
  · refine Ev_iconst (v := 0) (pc := 37) d_MO_has_37 (by decide) ?_
    refine Ev_ireturn (pc := 38) d_MO_has_38 rfl rfl ?_
    simp only [f_MO_has_1_29, if_neg q2] at k
    exact k
def f_MO_has_1 (h : ev_H) (x1 : Int32) (x2 : Int32) : Int32 × ev_H := f_MO_has_1_29 h x1 x2
theorem c_MO_has_1 {E : ev_E} {P : Option ev_V ⊕ Nat → ev_H → Prop} {h : ev_H} {x1 : Int32} {x2 : Int32} (v0 : f_MO_isUnit h x1 = 1) (hR : rfs h) (n2 : ¬ x1 < 0) (n3 : x1.toNatClampNeg < 48) (k : P (.inl (some (vI (f_MO_has_1 h x1 x2).1))) (f_MO_has_1 h x1 x2).2) : Ev E M_MO_has 0 [(0, vR 0 6), (1, vI x1), (2, vI x2)] [] h P := by
  refine Ev_aload_n (pc := 0) d_MO_has_0 rfl ?_
  refine Ev_aload_n (pc := 1) d_MO_has_1 rfl ?_
  refine Ev_iload_n (pc := 2) d_MO_has_2 rfl ?_
  refine Ev_callV (M' := M_MO_isUnit) (as := [vI x1]) (st := [vR 0 6]) (a := 0) (i := 6) (pc := 3) d_MO_has_3 rfl rfl rfl rfl rfl rfl rfl v_MO_isUnit lk_MO_111 rfl rfl (c_MO_isUnitV (v := 1) v0 ?_)
  refine Ev_if_ne (tgt := 13) (pc := 6) d_MO_has_6 rfl (fun _ => ?_) (fun q => absurd q (by decide))
  refine Ev_iconst (v := 0) (pc := 13) d_MO_has_13 (by decide) ?_
  refine Ev_iload_n (pc := 14) d_MO_has_14 rfl ?_
  refine Ev_iconst (v := 0) (pc := 15) d_MO_has_15 (by decide) ?_
  refine Ev_bipush (v := 7) (pc := 16) d_MO_has_16 (by decide) ?_
  refine Ev_callS (M' := M_MO_in) (as := [vI x2, vI 0, vI 7]) (st := [vI 0, vR 0 6]) (pc := 18) d_MO_has_18 rfl rfl rfl s_MO_in lk_MO_77 rfl rfl (c_MO_in  ?_)
  refine Ev_if_ne (tgt := 28) (pc := 21) d_MO_has_21 rfl (fun q1 => ?_) (fun q1 => ?_)
  · refine Ev_iconst (v := 0) (pc := 28) d_MO_has_28 (by decide) ?_
    rw [f_MO_has_1] at k
    have j := c_MO_has_1_29 (E := E) (P := P) (h := h) (x1 := x1) (x2 := x2) hR n2 n3 k
    rw [m_MO_has_1_29, if_neg q1] at j
    exact j
  · refine Ev_iconst (v := 1) (pc := 24) d_MO_has_24 (by decide) ?_
    refine Ev_goto (tgt := 29) (pc := 25) d_MO_has_25 rfl ?_
    rw [f_MO_has_1] at k
    have j := c_MO_has_1_29 (E := E) (P := P) (h := h) (x1 := x1) (x2 := x2) hR n2 n3 k
    rw [m_MO_has_1_29, if_pos q1] at j
    exact j
def m_MO_has_0_29 (x1 : Int32) (x2 : Int32) : Int32 := (if (f_MO_in x2 0 7) = 0 then 1 else 0)
def f_MO_has_0_29 (h : ev_H) (x1 : Int32) (x2 : Int32) : Int32 × ev_H := (0, (sI h 0 6 0 1))
theorem c_MO_has_0_29 {E : ev_E} {P : Option ev_V ⊕ Nat → ev_H → Prop} {h : ev_H} {x1 : Int32} {x2 : Int32} (k : P (.inl (some (vI (f_MO_has_0_29 h x1 x2).1))) (f_MO_has_0_29 h x1 x2).2) : Ev E M_MO_has 29 [(0, vR 0 6), (1, vI x1), (2, vI x2)] [vI (m_MO_has_0_29 x1 x2), vI 1, vR 0 6] h P := by
  refine Ev_iconst (v := 0) (pc := 29) d_MO_has_29 (by decide) ?_
  refine Ev_iconst (v := 0) (pc := 30) d_MO_has_30 (by decide) ?_
  refine Ev_callV (M' := M_MO_refused) (as := [vI 1, vI (m_MO_has_0_29 x1 x2), vI 0, vI 0]) (st := []) (a := 0) (i := 6) (pc := 31) d_MO_has_31 rfl rfl rfl rfl rfl rfl rfl v_MO_refused lk_MO_85 rfl rfl (c_MO_refused1  ?_)
  refine Ev_if_eq (tgt := 39) (pc := 34) d_MO_has_34 rfl (fun q => absurd q (by decide)) (fun _ => ?_)
  refine Ev_iconst (v := 0) (pc := 37) d_MO_has_37 (by decide) ?_
  refine Ev_ireturn (pc := 38) d_MO_has_38 rfl rfl ?_
  rw [f_MO_has_0_29] at k
  exact k
def f_MO_has_0 (h : ev_H) (x1 : Int32) (x2 : Int32) : Int32 × ev_H := f_MO_has_0_29 h x1 x2
theorem c_MO_has_0 {E : ev_E} {P : Option ev_V ⊕ Nat → ev_H → Prop} {h : ev_H} {x1 : Int32} {x2 : Int32} (v0 : f_MO_isUnit h x1 = 0) (k : P (.inl (some (vI (f_MO_has_0 h x1 x2).1))) (f_MO_has_0 h x1 x2).2) : Ev E M_MO_has 0 [(0, vR 0 6), (1, vI x1), (2, vI x2)] [] h P := by
  refine Ev_aload_n (pc := 0) d_MO_has_0 rfl ?_
  refine Ev_aload_n (pc := 1) d_MO_has_1 rfl ?_
  refine Ev_iload_n (pc := 2) d_MO_has_2 rfl ?_
  refine Ev_callV (M' := M_MO_isUnit) (as := [vI x1]) (st := [vR 0 6]) (a := 0) (i := 6) (pc := 3) d_MO_has_3 rfl rfl rfl rfl rfl rfl rfl v_MO_isUnit lk_MO_111 rfl rfl (c_MO_isUnitV (v := 0) v0 ?_)
  refine Ev_if_ne (tgt := 13) (pc := 6) d_MO_has_6 rfl (fun q => absurd q (by decide)) (fun _ => ?_)
  refine Ev_iconst (v := 1) (pc := 9) d_MO_has_9 (by decide) ?_
  refine Ev_goto (tgt := 14) (pc := 10) d_MO_has_10 rfl ?_
  refine Ev_iload_n (pc := 14) d_MO_has_14 rfl ?_
  refine Ev_iconst (v := 0) (pc := 15) d_MO_has_15 (by decide) ?_
  refine Ev_bipush (v := 7) (pc := 16) d_MO_has_16 (by decide) ?_
  refine Ev_callS (M' := M_MO_in) (as := [vI x2, vI 0, vI 7]) (st := [vI 1, vR 0 6]) (pc := 18) d_MO_has_18 rfl rfl rfl s_MO_in lk_MO_77 rfl rfl (c_MO_in  ?_)
  refine Ev_if_ne (tgt := 28) (pc := 21) d_MO_has_21 rfl (fun q1 => ?_) (fun q1 => ?_)
  · refine Ev_iconst (v := 0) (pc := 28) d_MO_has_28 (by decide) ?_
    rw [f_MO_has_0] at k
    have j := c_MO_has_0_29 (E := E) (P := P) (h := h) (x1 := x1) (x2 := x2)  k
    rw [m_MO_has_0_29, if_neg q1] at j
    exact j
  · refine Ev_iconst (v := 1) (pc := 24) d_MO_has_24 (by decide) ?_
    refine Ev_goto (tgt := 29) (pc := 25) d_MO_has_25 rfl ?_
    rw [f_MO_has_0] at k
    have j := c_MO_has_0_29 (E := E) (P := P) (h := h) (x1 := x1) (x2 := x2)  k
    rw [m_MO_has_0_29, if_pos q1] at j
    exact j
def m_MO_who_1_28 (x1 : Int32) (x2 : Int32) : Int32 := (if (f_MO_in x2 0 4) = 0 then 1 else 0)
def f_MO_who_1_28 (h : ev_H) (x1 : Int32) (x2 : Int32) : Int32 × ev_H := ((if ((f_MO_refused h 0 (m_MO_who_1_28 x1 x2) 0 0).1) = 0 then (if x2 = 1 then (if (gI ((f_MO_refused h 0 (m_MO_who_1_28 x1 x2) 0 0).2) 0 23 x1.toNatClampNeg) = 1 then ((gI ((f_MO_refused h 0 (m_MO_who_1_28 x1 x2) 0 0).2) 0 21 x1.toNatClampNeg) / 2) else (-1)) else (if x2 = 2 then (if (gI ((f_MO_refused h 0 (m_MO_who_1_28 x1 x2) 0 0).2) 0 23 x1.toNatClampNeg) = 1 then ((gI ((f_MO_refused h 0 (m_MO_who_1_28 x1 x2) 0 0).2) 0 21 x1.toNatClampNeg) - (gI ((f_MO_refused h 0 (m_MO_who_1_28 x1 x2) 0 0).2) 0 21 x1.toNatClampNeg) / 2 * 2) else (-1)) else (if x2 = 0 then (gI ((f_MO_refused h 0 (m_MO_who_1_28 x1 x2) 0 0).2) 0 23 x1.toNatClampNeg) else (if x2 = 3 then (gI ((f_MO_refused h 0 (m_MO_who_1_28 x1 x2) 0 0).2) 0 24 x1.toNatClampNeg) else (gI ((f_MO_refused h 0 (m_MO_who_1_28 x1 x2) 0 0).2) 0 25 x1.toNatClampNeg))))) else 0), ((f_MO_refused h 0 (m_MO_who_1_28 x1 x2) 0 0).2))
theorem c_MO_who_1_28 {E : ev_E} {P : Option ev_V ⊕ Nat → ev_H → Prop} {h : ev_H} {x1 : Int32} {x2 : Int32} (hR : rfs h) (n1 : ¬ x1 < 0) (n2 : x1.toNatClampNeg < 10) (k : P (.inl (some (vI (f_MO_who_1_28 h x1 x2).1))) (f_MO_who_1_28 h x1 x2).2) : Ev E M_MO_who 28 [(0, vR 0 6), (1, vI x1), (2, vI x2)] [vI (m_MO_who_1_28 x1 x2), vI 0, vR 0 6] h P := by
  refine Ev_iconst (v := 0) (pc := 28) d_MO_who_28 (by decide) ?_
  refine Ev_iconst (v := 0) (pc := 29) d_MO_who_29 (by decide) ?_
  refine Ev_callV (M' := M_MO_refused) (as := [vI 0, vI (m_MO_who_1_28 x1 x2), vI 0, vI 0]) (st := []) (a := 0) (i := 6) (pc := 30) d_MO_who_30 rfl rfl rfl rfl rfl rfl rfl v_MO_refused lk_MO_85 rfl rfl (c_MO_refused  ?_)
  refine Ev_if_eq (tgt := 38) (pc := 33) d_MO_who_33 rfl (fun q2 => ?_) (fun q2 => ?_)
  · refine Ev_iload_n (pc := 38) d_MO_who_38 rfl ?_
    refine Ev_iconst (v := 1) (pc := 39) d_MO_who_39 (by decide) ?_
    refine Ev_icmp_eq (tgt := 48) (pc := 40) d_MO_who_40 rfl (fun q3 => ?_) (fun q3 => ?_)
    · refine Ev_aload_n (pc := 48) d_MO_who_48 rfl ?_
      refine Ev_getR (pc := 49) d_MO_who_49 rfl rfl rfl fl_MO_58 (rf_MO_22 hR) ?_
      refine Ev_iload_n (pc := 52) d_MO_who_52 rfl ?_
      refine Ev_iald (pc := 53) d_MO_who_53 rfl rfl n1 n2 ?_
      refine Ev_iconst (v := 1) (pc := 54) d_MO_who_54 (by decide) ?_
      refine Ev_icmp_eq (tgt := 62) (pc := 55) d_MO_who_55 rfl (fun q4 => ?_) (fun q4 => ?_)
      · refine Ev_iload_n (pc := 62) d_MO_who_62 rfl ?_
        refine Ev_iconst (v := 1) (pc := 63) d_MO_who_63 (by decide) ?_
        refine Ev_icmp_ne (tgt := 78) (pc := 64) d_MO_who_64 rfl (fun q => absurd q3 q) (fun _ => ?_)
        refine Ev_aload_n (pc := 67) d_MO_who_67 rfl ?_
        refine Ev_getR (pc := 68) d_MO_who_68 rfl rfl rfl fl_MO_52 (rf_MO_20 hR) ?_
        refine Ev_iload_n (pc := 71) d_MO_who_71 rfl ?_
        refine Ev_iald (pc := 72) d_MO_who_72 rfl rfl n1 n2 ?_
        refine Ev_iconst (v := 2) (pc := 73) d_MO_who_73 (by decide) ?_
        refine Ev_idiv (pc := 74) d_MO_who_74 (by decide) ?_
        refine Ev_goto (tgt := 86) (pc := 75) d_MO_who_75 rfl ?_
        refine Ev_ireturn (pc := 86) d_MO_who_86 rfl rfl ?_
        simp only [f_MO_who_1_28, if_pos q2, if_pos q3, if_pos q4] at k
        exact k
      · refine Ev_iconst (v := -1) (pc := 58) d_MO_who_58 (by decide) ?_
        refine Ev_goto (tgt := 86) (pc := 59) d_MO_who_59 rfl ?_
        refine Ev_ireturn (pc := 86) d_MO_who_86 rfl rfl ?_
        simp only [f_MO_who_1_28, if_pos q2, if_pos q3, if_neg q4] at k
        exact k
    · refine Ev_iload_n (pc := 43) d_MO_who_43 rfl ?_
      refine Ev_iconst (v := 2) (pc := 44) d_MO_who_44 (by decide) ?_
      refine Ev_icmp_ne (tgt := 87) (pc := 45) d_MO_who_45 rfl (fun q5 => ?_) (fun q5 => ?_)
      · refine Ev_iload_n (pc := 87) d_MO_who_87 rfl ?_
        refine Ev_if_ne (tgt := 100) (pc := 88) d_MO_who_88 rfl (fun q6 => ?_) (fun q6 => ?_)
        · refine Ev_iload_n (pc := 100) d_MO_who_100 rfl ?_
          refine Ev_iconst (v := 3) (pc := 101) d_MO_who_101 (by decide) ?_
          refine Ev_icmp_ne (tgt := 114) (pc := 102) d_MO_who_102 rfl (fun q7 => ?_) (fun q7 => ?_)
          · refine Ev_aload_n (pc := 114) d_MO_who_114 rfl ?_
            refine Ev_getR (pc := 115) d_MO_who_115 rfl rfl rfl fl_MO_64 (rf_MO_24 hR) ?_
            refine Ev_iload_n (pc := 118) d_MO_who_118 rfl ?_
            refine Ev_iald (pc := 119) d_MO_who_119 rfl rfl n1 n2 ?_
            refine Ev_ireturn (pc := 120) d_MO_who_120 rfl rfl ?_
            simp only [f_MO_who_1_28, if_pos q2, if_neg q3, if_neg q5, if_neg q6, if_neg q7] at k
            exact k
          · refine Ev_aload_n (pc := 105) d_MO_who_105 rfl ?_
            refine Ev_getR (pc := 106) d_MO_who_106 rfl rfl rfl fl_MO_61 (rf_MO_23 hR) ?_
            refine Ev_iload_n (pc := 109) d_MO_who_109 rfl ?_
            refine Ev_iald (pc := 110) d_MO_who_110 rfl rfl n1 n2 ?_
            refine Ev_goto (tgt := 120) (pc := 111) d_MO_who_111 rfl ?_
            refine Ev_ireturn (pc := 120) d_MO_who_120 rfl rfl ?_
            simp only [f_MO_who_1_28, if_pos q2, if_neg q3, if_neg q5, if_neg q6, if_pos q7] at k
            exact k
        · refine Ev_aload_n (pc := 91) d_MO_who_91 rfl ?_
          refine Ev_getR (pc := 92) d_MO_who_92 rfl rfl rfl fl_MO_58 (rf_MO_22 hR) ?_
          refine Ev_iload_n (pc := 95) d_MO_who_95 rfl ?_
          refine Ev_iald (pc := 96) d_MO_who_96 rfl rfl n1 n2 ?_
          refine Ev_goto (tgt := 120) (pc := 97) d_MO_who_97 rfl ?_
          refine Ev_ireturn (pc := 120) d_MO_who_120 rfl rfl ?_
          simp only [f_MO_who_1_28, if_pos q2, if_neg q3, if_neg q5, if_pos q6] at k
          exact k
      · refine Ev_aload_n (pc := 48) d_MO_who_48 rfl ?_
        refine Ev_getR (pc := 49) d_MO_who_49 rfl rfl rfl fl_MO_58 (rf_MO_22 hR) ?_
        refine Ev_iload_n (pc := 52) d_MO_who_52 rfl ?_
        refine Ev_iald (pc := 53) d_MO_who_53 rfl rfl n1 n2 ?_
        refine Ev_iconst (v := 1) (pc := 54) d_MO_who_54 (by decide) ?_
        refine Ev_icmp_eq (tgt := 62) (pc := 55) d_MO_who_55 rfl (fun q8 => ?_) (fun q8 => ?_)
        · refine Ev_iload_n (pc := 62) d_MO_who_62 rfl ?_
          refine Ev_iconst (v := 1) (pc := 63) d_MO_who_63 (by decide) ?_
          refine Ev_icmp_ne (tgt := 78) (pc := 64) d_MO_who_64 rfl (fun _ => ?_) (fun q => absurd q q3)
          refine Ev_aload_n (pc := 78) d_MO_who_78 rfl ?_
          refine Ev_getR (pc := 79) d_MO_who_79 rfl rfl rfl fl_MO_52 (rf_MO_20 hR) ?_
          refine Ev_iload_n (pc := 82) d_MO_who_82 rfl ?_
          refine Ev_iald (pc := 83) d_MO_who_83 rfl rfl n1 n2 ?_
          refine Ev_iconst (v := 2) (pc := 84) d_MO_who_84 (by decide) ?_
          refine Ev_irem (pc := 85) d_MO_who_85 (by decide) ?_
          refine Ev_ireturn (pc := 86) d_MO_who_86 rfl rfl ?_
          simp only [f_MO_who_1_28, if_pos q2, if_neg q3, if_pos q5, if_pos q8] at k
          exact k
        · refine Ev_iconst (v := -1) (pc := 58) d_MO_who_58 (by decide) ?_
          refine Ev_goto (tgt := 86) (pc := 59) d_MO_who_59 rfl ?_
          refine Ev_ireturn (pc := 86) d_MO_who_86 rfl rfl ?_
          simp only [f_MO_who_1_28, if_pos q2, if_neg q3, if_pos q5, if_neg q8] at k
          exact k
  · refine Ev_iconst (v := 0) (pc := 36) d_MO_who_36 (by decide) ?_
    refine Ev_ireturn (pc := 37) d_MO_who_37 rfl rfl ?_
    simp only [f_MO_who_1_28, if_neg q2] at k
    exact k
def f_MO_who_1 (h : ev_H) (x1 : Int32) (x2 : Int32) : Int32 × ev_H := f_MO_who_1_28 h x1 x2
theorem c_MO_who_1 {E : ev_E} {P : Option ev_V ⊕ Nat → ev_H → Prop} {h : ev_H} {x1 : Int32} {x2 : Int32} (v0 : f_MO_isPatient h x1 = 1) (hR : rfs h) (n2 : ¬ x1 < 0) (n3 : x1.toNatClampNeg < 10) (k : P (.inl (some (vI (f_MO_who_1 h x1 x2).1))) (f_MO_who_1 h x1 x2).2) : Ev E M_MO_who 0 [(0, vR 0 6), (1, vI x1), (2, vI x2)] [] h P := by
  refine Ev_aload_n (pc := 0) d_MO_who_0 rfl ?_
  refine Ev_aload_n (pc := 1) d_MO_who_1 rfl ?_
  refine Ev_iload_n (pc := 2) d_MO_who_2 rfl ?_
  refine Ev_callV (M' := M_MO_isPatient) (as := [vI x1]) (st := [vR 0 6]) (a := 0) (i := 6) (pc := 3) d_MO_who_3 rfl rfl rfl rfl rfl rfl rfl v_MO_isPatient lk_MO_121 rfl rfl (c_MO_isPatientV (v := 1) v0 ?_)
  refine Ev_if_ne (tgt := 13) (pc := 6) d_MO_who_6 rfl (fun _ => ?_) (fun q => absurd q (by decide))
  refine Ev_iconst (v := 0) (pc := 13) d_MO_who_13 (by decide) ?_
  refine Ev_iload_n (pc := 14) d_MO_who_14 rfl ?_
  refine Ev_iconst (v := 0) (pc := 15) d_MO_who_15 (by decide) ?_
  refine Ev_iconst (v := 4) (pc := 16) d_MO_who_16 (by decide) ?_
  refine Ev_callS (M' := M_MO_in) (as := [vI x2, vI 0, vI 4]) (st := [vI 0, vR 0 6]) (pc := 17) d_MO_who_17 rfl rfl rfl s_MO_in lk_MO_77 rfl rfl (c_MO_in  ?_)
  refine Ev_if_ne (tgt := 27) (pc := 20) d_MO_who_20 rfl (fun q1 => ?_) (fun q1 => ?_)
  · refine Ev_iconst (v := 0) (pc := 27) d_MO_who_27 (by decide) ?_
    rw [f_MO_who_1] at k
    have j := c_MO_who_1_28 (E := E) (P := P) (h := h) (x1 := x1) (x2 := x2) hR n2 n3 k
    rw [m_MO_who_1_28, if_neg q1] at j
    exact j
  · refine Ev_iconst (v := 1) (pc := 23) d_MO_who_23 (by decide) ?_
    refine Ev_goto (tgt := 28) (pc := 24) d_MO_who_24 rfl ?_
    rw [f_MO_who_1] at k
    have j := c_MO_who_1_28 (E := E) (P := P) (h := h) (x1 := x1) (x2 := x2) hR n2 n3 k
    rw [m_MO_who_1_28, if_pos q1] at j
    exact j
def m_MO_who_0_28 (x1 : Int32) (x2 : Int32) : Int32 := (if (f_MO_in x2 0 4) = 0 then 1 else 0)
def f_MO_who_0_28 (h : ev_H) (x1 : Int32) (x2 : Int32) : Int32 × ev_H := (0, (sI h 0 6 0 1))
theorem c_MO_who_0_28 {E : ev_E} {P : Option ev_V ⊕ Nat → ev_H → Prop} {h : ev_H} {x1 : Int32} {x2 : Int32} (k : P (.inl (some (vI (f_MO_who_0_28 h x1 x2).1))) (f_MO_who_0_28 h x1 x2).2) : Ev E M_MO_who 28 [(0, vR 0 6), (1, vI x1), (2, vI x2)] [vI (m_MO_who_0_28 x1 x2), vI 1, vR 0 6] h P := by
  refine Ev_iconst (v := 0) (pc := 28) d_MO_who_28 (by decide) ?_
  refine Ev_iconst (v := 0) (pc := 29) d_MO_who_29 (by decide) ?_
  refine Ev_callV (M' := M_MO_refused) (as := [vI 1, vI (m_MO_who_0_28 x1 x2), vI 0, vI 0]) (st := []) (a := 0) (i := 6) (pc := 30) d_MO_who_30 rfl rfl rfl rfl rfl rfl rfl v_MO_refused lk_MO_85 rfl rfl (c_MO_refused1  ?_)
  refine Ev_if_eq (tgt := 38) (pc := 33) d_MO_who_33 rfl (fun q => absurd q (by decide)) (fun _ => ?_)
  refine Ev_iconst (v := 0) (pc := 36) d_MO_who_36 (by decide) ?_
  refine Ev_ireturn (pc := 37) d_MO_who_37 rfl rfl ?_
  rw [f_MO_who_0_28] at k
  exact k
def f_MO_who_0 (h : ev_H) (x1 : Int32) (x2 : Int32) : Int32 × ev_H := f_MO_who_0_28 h x1 x2
theorem c_MO_who_0 {E : ev_E} {P : Option ev_V ⊕ Nat → ev_H → Prop} {h : ev_H} {x1 : Int32} {x2 : Int32} (v0 : f_MO_isPatient h x1 = 0) (k : P (.inl (some (vI (f_MO_who_0 h x1 x2).1))) (f_MO_who_0 h x1 x2).2) : Ev E M_MO_who 0 [(0, vR 0 6), (1, vI x1), (2, vI x2)] [] h P := by
  refine Ev_aload_n (pc := 0) d_MO_who_0 rfl ?_
  refine Ev_aload_n (pc := 1) d_MO_who_1 rfl ?_
  refine Ev_iload_n (pc := 2) d_MO_who_2 rfl ?_
  refine Ev_callV (M' := M_MO_isPatient) (as := [vI x1]) (st := [vR 0 6]) (a := 0) (i := 6) (pc := 3) d_MO_who_3 rfl rfl rfl rfl rfl rfl rfl v_MO_isPatient lk_MO_121 rfl rfl (c_MO_isPatientV (v := 0) v0 ?_)
  refine Ev_if_ne (tgt := 13) (pc := 6) d_MO_who_6 rfl (fun q => absurd q (by decide)) (fun _ => ?_)
  refine Ev_iconst (v := 1) (pc := 9) d_MO_who_9 (by decide) ?_
  refine Ev_goto (tgt := 14) (pc := 10) d_MO_who_10 rfl ?_
  refine Ev_iload_n (pc := 14) d_MO_who_14 rfl ?_
  refine Ev_iconst (v := 0) (pc := 15) d_MO_who_15 (by decide) ?_
  refine Ev_iconst (v := 4) (pc := 16) d_MO_who_16 (by decide) ?_
  refine Ev_callS (M' := M_MO_in) (as := [vI x2, vI 0, vI 4]) (st := [vI 1, vR 0 6]) (pc := 17) d_MO_who_17 rfl rfl rfl s_MO_in lk_MO_77 rfl rfl (c_MO_in  ?_)
  refine Ev_if_ne (tgt := 27) (pc := 20) d_MO_who_20 rfl (fun q1 => ?_) (fun q1 => ?_)
  · refine Ev_iconst (v := 0) (pc := 27) d_MO_who_27 (by decide) ?_
    rw [f_MO_who_0] at k
    have j := c_MO_who_0_28 (E := E) (P := P) (h := h) (x1 := x1) (x2 := x2)  k
    rw [m_MO_who_0_28, if_neg q1] at j
    exact j
  · refine Ev_iconst (v := 1) (pc := 23) d_MO_who_23 (by decide) ?_
    refine Ev_goto (tgt := 28) (pc := 24) d_MO_who_24 rfl ?_
    rw [f_MO_who_0] at k
    have j := c_MO_who_0_28 (E := E) (P := P) (h := h) (x1 := x1) (x2 := x2)  k
    rw [m_MO_who_0_28, if_pos q1] at j
    exact j
def f_MO_why_11 (h : ev_H) (x1 : Int32) (x2 : Int32) : Int32 × ev_H := ((if ((f_MO_refused h 0 0 0 0).1) = 0 then (f_MO_reasonFor ((f_MO_refused h 0 0 0 0).2) x1 x2) else 0), ((f_MO_refused h 0 0 0 0).2))
theorem c_MO_why_11 {E : ev_E} {P : Option ev_V ⊕ Nat → ev_H → Prop} {h : ev_H} {x1 : Int32} {x2 : Int32} (v0 : f_MO_isPatient h x1 = 1) (v1 : f_MO_isUnit h x2 = 1) (hR : rfs h) (n3 : ¬ x2 < 0) (n4 : x2.toNatClampNeg < 48) (n5 : ¬ x1 < 0) (n6 : x1.toNatClampNeg < 10) (k : P (.inl (some (vI (f_MO_why_11 h x1 x2).1))) (f_MO_why_11 h x1 x2).2) : Ev E M_MO_why 0 [(0, vR 0 6), (1, vI x1), (2, vI x2)] [] h P := by
  refine Ev_aload_n (pc := 0) d_MO_why_0 rfl ?_
  refine Ev_aload_n (pc := 1) d_MO_why_1 rfl ?_
  refine Ev_iload_n (pc := 2) d_MO_why_2 rfl ?_
  refine Ev_callV (M' := M_MO_isPatient) (as := [vI x1]) (st := [vR 0 6]) (a := 0) (i := 6) (pc := 3) d_MO_why_3 rfl rfl rfl rfl rfl rfl rfl v_MO_isPatient lk_MO_121 rfl rfl (c_MO_isPatientV (v := 1) v0 ?_)
  refine Ev_if_eq (tgt := 17) (pc := 6) d_MO_why_6 rfl (fun q => absurd q (by decide)) (fun _ => ?_)
  refine Ev_aload_n (pc := 9) d_MO_why_9 rfl ?_
  refine Ev_iload_n (pc := 10) d_MO_why_10 rfl ?_
  refine Ev_callV (M' := M_MO_isUnit) (as := [vI x2]) (st := [vR 0 6]) (a := 0) (i := 6) (pc := 11) d_MO_why_11 rfl rfl rfl rfl rfl rfl rfl v_MO_isUnit lk_MO_111 rfl rfl (c_MO_isUnitV (v := 1) v1 ?_)
  refine Ev_if_ne (tgt := 21) (pc := 14) d_MO_why_14 rfl (fun _ => ?_) (fun q => absurd q (by decide))
  refine Ev_iconst (v := 0) (pc := 21) d_MO_why_21 (by decide) ?_
  refine Ev_iconst (v := 0) (pc := 22) d_MO_why_22 (by decide) ?_
  refine Ev_iconst (v := 0) (pc := 23) d_MO_why_23 (by decide) ?_
  refine Ev_iconst (v := 0) (pc := 24) d_MO_why_24 (by decide) ?_
  refine Ev_callV (M' := M_MO_refused) (as := [vI 0, vI 0, vI 0, vI 0]) (st := []) (a := 0) (i := 6) (pc := 25) d_MO_why_25 rfl rfl rfl rfl rfl rfl rfl v_MO_refused lk_MO_85 rfl rfl (c_MO_refused  ?_)
  refine Ev_if_eq (tgt := 35) (pc := 28) d_MO_why_28 rfl (fun q1 => ?_) (fun q1 => ?_)
  · refine Ev_aload_n (pc := 35) d_MO_why_35 rfl ?_
    refine Ev_iload_n (pc := 36) d_MO_why_36 rfl ?_
    refine Ev_iload_n (pc := 37) d_MO_why_37 rfl ?_
    refine Ev_callV (M' := M_MO_reasonFor) (as := [vI x1, vI x2]) (st := []) (a := 0) (i := 6) (pc := 38) d_MO_why_38 rfl rfl rfl rfl rfl rfl rfl v_MO_reasonFor lk_MO_127 rfl rfl (c_MO_reasonFor hR n3 n4 n5 n6 ?_)
    refine Ev_ireturn (pc := 41) d_MO_why_41 rfl rfl ?_
    simp only [f_MO_why_11, if_pos q1] at k
    exact k
  · refine Ev_iconst (v := 0) (pc := 31) d_MO_why_31 (by decide) ?_
    refine Ev_goto (tgt := 41) (pc := 32) d_MO_why_32 rfl ?_
    refine Ev_ireturn (pc := 41) d_MO_why_41 rfl rfl ?_
    simp only [f_MO_why_11, if_neg q1] at k
    exact k
def f_MO_why_10 (h : ev_H) (x1 : Int32) (x2 : Int32) : Int32 × ev_H := (0, (sI h 0 6 0 1))
theorem c_MO_why_10 {E : ev_E} {P : Option ev_V ⊕ Nat → ev_H → Prop} {h : ev_H} {x1 : Int32} {x2 : Int32} (v0 : f_MO_isPatient h x1 = 1) (v1 : f_MO_isUnit h x2 = 0) (k : P (.inl (some (vI (f_MO_why_10 h x1 x2).1))) (f_MO_why_10 h x1 x2).2) : Ev E M_MO_why 0 [(0, vR 0 6), (1, vI x1), (2, vI x2)] [] h P := by
  refine Ev_aload_n (pc := 0) d_MO_why_0 rfl ?_
  refine Ev_aload_n (pc := 1) d_MO_why_1 rfl ?_
  refine Ev_iload_n (pc := 2) d_MO_why_2 rfl ?_
  refine Ev_callV (M' := M_MO_isPatient) (as := [vI x1]) (st := [vR 0 6]) (a := 0) (i := 6) (pc := 3) d_MO_why_3 rfl rfl rfl rfl rfl rfl rfl v_MO_isPatient lk_MO_121 rfl rfl (c_MO_isPatientV (v := 1) v0 ?_)
  refine Ev_if_eq (tgt := 17) (pc := 6) d_MO_why_6 rfl (fun q => absurd q (by decide)) (fun _ => ?_)
  refine Ev_aload_n (pc := 9) d_MO_why_9 rfl ?_
  refine Ev_iload_n (pc := 10) d_MO_why_10 rfl ?_
  refine Ev_callV (M' := M_MO_isUnit) (as := [vI x2]) (st := [vR 0 6]) (a := 0) (i := 6) (pc := 11) d_MO_why_11 rfl rfl rfl rfl rfl rfl rfl v_MO_isUnit lk_MO_111 rfl rfl (c_MO_isUnitV (v := 0) v1 ?_)
  refine Ev_if_ne (tgt := 21) (pc := 14) d_MO_why_14 rfl (fun q => absurd q (by decide)) (fun _ => ?_)
  refine Ev_iconst (v := 1) (pc := 17) d_MO_why_17 (by decide) ?_
  refine Ev_goto (tgt := 22) (pc := 18) d_MO_why_18 rfl ?_
  refine Ev_iconst (v := 0) (pc := 22) d_MO_why_22 (by decide) ?_
  refine Ev_iconst (v := 0) (pc := 23) d_MO_why_23 (by decide) ?_
  refine Ev_iconst (v := 0) (pc := 24) d_MO_why_24 (by decide) ?_
  refine Ev_callV (M' := M_MO_refused) (as := [vI 1, vI 0, vI 0, vI 0]) (st := []) (a := 0) (i := 6) (pc := 25) d_MO_why_25 rfl rfl rfl rfl rfl rfl rfl v_MO_refused lk_MO_85 rfl rfl (c_MO_refused1  ?_)
  refine Ev_if_eq (tgt := 35) (pc := 28) d_MO_why_28 rfl (fun q => absurd q (by decide)) (fun _ => ?_)
  refine Ev_iconst (v := 0) (pc := 31) d_MO_why_31 (by decide) ?_
  refine Ev_goto (tgt := 41) (pc := 32) d_MO_why_32 rfl ?_
  refine Ev_ireturn (pc := 41) d_MO_why_41 rfl rfl ?_
  rw [f_MO_why_10] at k
  exact k
def f_MO_why_0 (h : ev_H) (x1 : Int32) (x2 : Int32) : Int32 × ev_H := (0, (sI h 0 6 0 1))
theorem c_MO_why_0 {E : ev_E} {P : Option ev_V ⊕ Nat → ev_H → Prop} {h : ev_H} {x1 : Int32} {x2 : Int32} (v0 : f_MO_isPatient h x1 = 0) (k : P (.inl (some (vI (f_MO_why_0 h x1 x2).1))) (f_MO_why_0 h x1 x2).2) : Ev E M_MO_why 0 [(0, vR 0 6), (1, vI x1), (2, vI x2)] [] h P := by
  refine Ev_aload_n (pc := 0) d_MO_why_0 rfl ?_
  refine Ev_aload_n (pc := 1) d_MO_why_1 rfl ?_
  refine Ev_iload_n (pc := 2) d_MO_why_2 rfl ?_
  refine Ev_callV (M' := M_MO_isPatient) (as := [vI x1]) (st := [vR 0 6]) (a := 0) (i := 6) (pc := 3) d_MO_why_3 rfl rfl rfl rfl rfl rfl rfl v_MO_isPatient lk_MO_121 rfl rfl (c_MO_isPatientV (v := 0) v0 ?_)
  refine Ev_if_eq (tgt := 17) (pc := 6) d_MO_why_6 rfl (fun _ => ?_) (fun q => absurd q (by decide))
  refine Ev_iconst (v := 1) (pc := 17) d_MO_why_17 (by decide) ?_
  refine Ev_goto (tgt := 22) (pc := 18) d_MO_why_18 rfl ?_
  refine Ev_iconst (v := 0) (pc := 22) d_MO_why_22 (by decide) ?_
  refine Ev_iconst (v := 0) (pc := 23) d_MO_why_23 (by decide) ?_
  refine Ev_iconst (v := 0) (pc := 24) d_MO_why_24 (by decide) ?_
  refine Ev_callV (M' := M_MO_refused) (as := [vI 1, vI 0, vI 0, vI 0]) (st := []) (a := 0) (i := 6) (pc := 25) d_MO_why_25 rfl rfl rfl rfl rfl rfl rfl v_MO_refused lk_MO_85 rfl rfl (c_MO_refused1  ?_)
  refine Ev_if_eq (tgt := 35) (pc := 28) d_MO_why_28 rfl (fun q => absurd q (by decide)) (fun _ => ?_)
  refine Ev_iconst (v := 0) (pc := 31) d_MO_why_31 (by decide) ?_
  refine Ev_goto (tgt := 41) (pc := 32) d_MO_why_32 rfl ?_
  refine Ev_ireturn (pc := 41) d_MO_why_41 rfl rfl ?_
  rw [f_MO_why_0] at k
  exact k