/-! numbers of rounds -/
theorem nIc {a : Nat} (q : a < 480) : (nI a).toNatClampNeg = a := nI_clamp (Nat.lt_of_lt_of_le q (by decide))
theorem nIp {a : Nat} (q : a < 480) : ¬ nI a < 0 := nI_pos (Nat.lt_of_lt_of_le q (by decide))
theorem nIb {a n : Nat} (q : a < n) (hn : n ≤ 480 := by decide) : (nI a).toNatClampNeg < n := by
  rw [nIc (Nat.lt_of_lt_of_le q hn)]; exact q
theorem lpx {x : Int32} {n : Nat} (q : x = nI n) : x ≤ nI n := by
  rw [q, Int32.le_iff_toInt_le]
  exact Int.le_refl _
theorem d_JI_bitCount_0 : decode (mB M_JI_bitCount) 0 = .ok (.iload_n 0, 1) := by decide +kernel
theorem d_JI_bitCount_1 : decode (mB M_JI_bitCount) 1 = .ok (.iload_n 0, 1) := by decide +kernel
theorem d_JI_bitCount_2 : decode (mB M_JI_bitCount) 2 = .ok (.iconst 1, 1) := by decide +kernel
theorem d_JI_bitCount_3 : decode (mB M_JI_bitCount) 3 = .ok (.iushr, 1) := by decide +kernel
theorem d_JI_bitCount_4 : decode (mB M_JI_bitCount) 4 = .ok (.ldc_w 265, 3) := by decide +kernel
theorem d_JI_bitCount_7 : decode (mB M_JI_bitCount) 7 = .ok (.iand, 1) := by decide +kernel
theorem d_JI_bitCount_8 : decode (mB M_JI_bitCount) 8 = .ok (.isub, 1) := by decide +kernel
theorem d_JI_bitCount_9 : decode (mB M_JI_bitCount) 9 = .ok (.istore_n 0, 1) := by decide +kernel
theorem d_JI_bitCount_10 : decode (mB M_JI_bitCount) 10 = .ok (.iload_n 0, 1) := by decide +kernel
theorem d_JI_bitCount_11 : decode (mB M_JI_bitCount) 11 = .ok (.ldc_w 266, 3) := by decide +kernel
theorem d_JI_bitCount_14 : decode (mB M_JI_bitCount) 14 = .ok (.iand, 1) := by decide +kernel
theorem d_JI_bitCount_15 : decode (mB M_JI_bitCount) 15 = .ok (.iload_n 0, 1) := by decide +kernel
theorem d_JI_bitCount_16 : decode (mB M_JI_bitCount) 16 = .ok (.iconst 2, 1) := by decide +kernel
theorem d_JI_bitCount_17 : decode (mB M_JI_bitCount) 17 = .ok (.iushr, 1) := by decide +kernel
theorem d_JI_bitCount_18 : decode (mB M_JI_bitCount) 18 = .ok (.ldc_w 266, 3) := by decide +kernel
theorem d_JI_bitCount_21 : decode (mB M_JI_bitCount) 21 = .ok (.iand, 1) := by decide +kernel
theorem d_JI_bitCount_22 : decode (mB M_JI_bitCount) 22 = .ok (.iadd, 1) := by decide +kernel
theorem d_JI_bitCount_23 : decode (mB M_JI_bitCount) 23 = .ok (.istore_n 0, 1) := by decide +kernel
theorem d_JI_bitCount_24 : decode (mB M_JI_bitCount) 24 = .ok (.iload_n 0, 1) := by decide +kernel
theorem d_JI_bitCount_25 : decode (mB M_JI_bitCount) 25 = .ok (.iload_n 0, 1) := by decide +kernel
theorem d_JI_bitCount_26 : decode (mB M_JI_bitCount) 26 = .ok (.iconst 4, 1) := by decide +kernel
theorem d_JI_bitCount_27 : decode (mB M_JI_bitCount) 27 = .ok (.iushr, 1) := by decide +kernel
theorem d_JI_bitCount_28 : decode (mB M_JI_bitCount) 28 = .ok (.iadd, 1) := by decide +kernel
theorem d_JI_bitCount_29 : decode (mB M_JI_bitCount) 29 = .ok (.ldc_w 267, 3) := by decide +kernel
theorem d_JI_bitCount_32 : decode (mB M_JI_bitCount) 32 = .ok (.iand, 1) := by decide +kernel
theorem d_JI_bitCount_33 : decode (mB M_JI_bitCount) 33 = .ok (.istore_n 0, 1) := by decide +kernel
theorem d_JI_bitCount_34 : decode (mB M_JI_bitCount) 34 = .ok (.iload_n 0, 1) := by decide +kernel
theorem d_JI_bitCount_35 : decode (mB M_JI_bitCount) 35 = .ok (.iload_n 0, 1) := by decide +kernel
theorem d_JI_bitCount_36 : decode (mB M_JI_bitCount) 36 = .ok (.bipush 8, 2) := by decide +kernel
theorem d_JI_bitCount_38 : decode (mB M_JI_bitCount) 38 = .ok (.iushr, 1) := by decide +kernel
theorem d_JI_bitCount_39 : decode (mB M_JI_bitCount) 39 = .ok (.iadd, 1) := by decide +kernel
theorem d_JI_bitCount_40 : decode (mB M_JI_bitCount) 40 = .ok (.istore_n 0, 1) := by decide +kernel
theorem d_JI_bitCount_41 : decode (mB M_JI_bitCount) 41 = .ok (.iload_n 0, 1) := by decide +kernel
theorem d_JI_bitCount_42 : decode (mB M_JI_bitCount) 42 = .ok (.iload_n 0, 1) := by decide +kernel
theorem d_JI_bitCount_43 : decode (mB M_JI_bitCount) 43 = .ok (.bipush 16, 2) := by decide +kernel
theorem d_JI_bitCount_45 : decode (mB M_JI_bitCount) 45 = .ok (.iushr, 1) := by decide +kernel
theorem d_JI_bitCount_46 : decode (mB M_JI_bitCount) 46 = .ok (.iadd, 1) := by decide +kernel
theorem d_JI_bitCount_47 : decode (mB M_JI_bitCount) 47 = .ok (.istore_n 0, 1) := by decide +kernel
theorem d_JI_bitCount_48 : decode (mB M_JI_bitCount) 48 = .ok (.iload_n 0, 1) := by decide +kernel
theorem d_JI_bitCount_49 : decode (mB M_JI_bitCount) 49 = .ok (.bipush 63, 2) := by decide +kernel
theorem d_JI_bitCount_51 : decode (mB M_JI_bitCount) 51 = .ok (.iand, 1) := by decide +kernel
theorem d_JI_bitCount_52 : decode (mB M_JI_bitCount) 52 = .ok (.ireturn, 1) := by decide +kernel
theorem c_TB_pass_L32s {E : ev_E} {P : Option ev_V ⊕ Nat → ev_H → Prop} {h : ev_H} {x1 : Int32} {a : Nat} (q0 : ¬ (gI h 0 0 3) ≤ (nI a)) (hR : rfs h) (n2 : gR h 0 1 a = vR 1 a) (n3 : a < 48) (k : Ev E M_TB_pass 32 [(0, vR 0 0), (1, vI x1), (2, vI ((nI a) + 1))] [] (f_UN_endReservationWhenOver h a (gI h 0 0 5)) P) : Ev E M_TB_pass 32 [(0, vR 0 0), (1, vI x1), (2, vI (nI a))] [] h P := by
  refine Ev_iload_n (pc := 32) d_TB_pass_32 rfl ?_
  refine Ev_aload_n (pc := 33) d_TB_pass_33 rfl ?_
  refine Ev_getI (pc := 34) d_TB_pass_34 rfl rfl rfl fl_TB_42 ?_
  refine Ev_icmp_ge (tgt := 59) (pc := 37) d_TB_pass_37 rfl (fun q => absurd q q0) (fun _ => ?_)
  refine Ev_aload_n (pc := 40) d_TB_pass_40 rfl ?_
  refine Ev_getR (pc := 41) d_TB_pass_41 rfl rfl rfl fl_TB_11 (rf_TB_0 hR) ?_
  refine Ev_iload_n (pc := 44) d_TB_pass_44 rfl ?_
  refine Ev_aaldJ (pc := 45) d_TB_pass_45 rfl rfl (Or.inl rfl) (nIp (Nat.lt_of_lt_of_le n3 (by decide))) (nIc (Nat.lt_of_lt_of_le n3 (by decide))) n3 n2 ?_
  refine Ev_aload_n (pc := 46) d_TB_pass_46 rfl ?_
  refine Ev_getI (pc := 47) d_TB_pass_47 rfl rfl rfl fl_TB_38 ?_
  refine Ev_callV (M' := M_UN_endReservationWhenOver) (as := [vI (gI h 0 0 5)]) (st := []) (a := 1) (i := a) (pc := 50) d_TB_pass_50 rfl rfl rfl rfl rfl rfl rfl v_UN_endReservationWhenOver lk_TB_45 rfl rfl (c_UN_endReservationWhenOver  ?_)
  refine Ev_iinc (d := 1) (pc := 53) d_TB_pass_53 rfl (by decide) rfl ?_
  refine Ev_goto (tgt := 32) (pc := 56) d_TB_pass_56 rfl ?_
  exact k
def r_TB_pass_L32 (h : ev_H) (x1 : Int32) : Nat → ev_H
  | 0 => h
  | a + 1 => (f_UN_endReservationWhenOver (r_TB_pass_L32 h x1 a) a (gI (r_TB_pass_L32 h x1 a) 0 0 5))
theorem lp_TB_pass_L32 {E : ev_E} {P : Option ev_V ⊕ Nat → ev_H → Prop} {h : ev_H} {x1 : Int32} (n : Nat) (hn : n ≤ 48) (hb : ∀ a, a ≤ n → (gI (r_TB_pass_L32 h x1 a) 0 0 3) = nI n) (hR : ∀ a, a < n → rfs (r_TB_pass_L32 h x1 a)) (n2 : ∀ a, a < n → gR (r_TB_pass_L32 h x1 a) 0 1 a = vR 1 a) (k : Ev E M_TB_pass 32 [(0, vR 0 0), (1, vI x1), (2, vI (nI n))] [] (r_TB_pass_L32 h x1 n) P) : Ev E M_TB_pass 32 [(0, vR 0 0), (1, vI x1), (2, vI 0)] [] h P := by
  refine Ev_for n (fun a => [(0, vR 0 0), (1, vI x1), (2, vI (nI a))]) (fun a => (r_TB_pass_L32 h x1 a)) (fun a ha k => ?_) k
  have k2 : Ev E M_TB_pass 32 [(0, vR 0 0), (1, vI x1), (2, vI (nI (a + 1)))] [] (r_TB_pass_L32 h x1 (a + 1)) P := k
  rw [nI_succ] at k2
  exact c_TB_pass_L32s (by rw [(hb a (Nat.le_of_lt ha))]; exact nI_ge ha (Nat.lt_of_le_of_lt hn (by decide))) (hR a ha) (n2 a ha) (Nat.lt_of_lt_of_le ha (Nat.le_trans hn (by decide))) k2
def f_TB_pass (h : ev_H) (x1 : Int32) : (Option ev_V ⊕ Nat) × ev_H := (if x1 < 0 then (.inr 0, nx h) else (if x1 ≤ 50000 then (.inl (some (vI (gI (r_TB_pass_L32 (sI h 0 0 5 ((gI h 0 0 5) + x1)) x1 (gI (sI h 0 0 5 ((gI h 0 0 5) + x1)) 0 0 3).toNatClampNeg) 0 0 5))), (r_TB_pass_L32 (sI h 0 0 5 ((gI h 0 0 5) + x1)) x1 (gI (sI h 0 0 5 ((gI h 0 0 5) + x1)) 0 0 3).toNatClampNeg)) else (.inr 0, nx h)))
theorem c_TB_pass {E : ev_E} {P : Option ev_V ⊕ Nat → ev_H → Prop} {h : ev_H} {x1 : Int32} (hZ : cZ h < ZM) (n1 : (gI h 0 0 3).toNatClampNeg ≤ 48) (n2 : ∀ a, a ≤ (gI h 0 0 3).toNatClampNeg → (gI (r_TB_pass_L32 (sI h 0 0 5 ((gI h 0 0 5) + x1)) x1 a) 0 0 3) = nI (gI h 0 0 3).toNatClampNeg) (n3 : ∀ a, a < (gI h 0 0 3).toNatClampNeg → rfs (r_TB_pass_L32 (sI h 0 0 5 ((gI h 0 0 5) + x1)) x1 a)) (n4 : ∀ a, a < (gI h 0 0 3).toNatClampNeg → gR (r_TB_pass_L32 (sI h 0 0 5 ((gI h 0 0 5) + x1)) x1 a) 0 1 a = vR 1 a) (k : P (f_TB_pass h x1).1 (f_TB_pass h x1).2) : Ev E M_TB_pass 0 [(0, vR 0 0), (1, vI x1)] [] h P := by
  refine Ev_iload_n (pc := 0) d_TB_pass_0 rfl ?_
  refine Ev_if_lt (tgt := 10) (pc := 1) d_TB_pass_1 rfl (fun q1 => ?_) (fun q1 => ?_)
  · refine Ev_throw (pc := 10) d_TB_pass_10 d_TB_pass_13 d_TB_pass_14 d_TB_pass_16 d_TB_pass_19 rfl rfl th_TB_31_33_35 rfl hZ ?_
    rw [f_TB_pass, if_pos q1] at k
    exact k
  · refine Ev_iload_n (pc := 4) d_TB_pass_4 rfl ?_
    refine Ev_ldc (pc := 5) d_TB_pass_5 w_con_TB_30 ?_
    refine Ev_icmp_le (tgt := 20) (pc := 7) d_TB_pass_7 rfl (fun q2 => ?_) (fun q2 => ?_)
    · refine Ev_aload_n (pc := 20) d_TB_pass_20 rfl ?_
      refine Ev_dup (pc := 21) d_TB_pass_21 rfl ?_
      refine Ev_getI (pc := 22) d_TB_pass_22 rfl rfl rfl fl_TB_38 ?_
      refine Ev_iload_n (pc := 25) d_TB_pass_25 rfl ?_
      refine Ev_iadd (pc := 26) d_TB_pass_26 ?_
      refine Ev_putI (pc := 27) d_TB_pass_27 rfl rfl rfl fl_TB_38 rfl ?_
      refine Ev_iconst (v := 0) (pc := 30) d_TB_pass_30 (by decide) ?_
      refine Ev_istore_n (pc := 31) d_TB_pass_31 rfl ?_
      refine lp_TB_pass_L32 ((gI (sI h 0 0 5 ((gI h 0 0 5) + x1)) 0 0 3).toNatClampNeg) n1 n2 n3 n4 ?_
      refine Ev_iload_n (pc := 32) d_TB_pass_32 rfl ?_
      refine Ev_aload_n (pc := 33) d_TB_pass_33 rfl ?_
      refine Ev_getI (pc := 34) d_TB_pass_34 rfl rfl rfl fl_TB_42 ?_
      refine Ev_icmp_ge (tgt := 59) (pc := 37) d_TB_pass_37 rfl (fun _ => ?_) (fun q => absurd (lpx (n2 _ (Nat.le_refl _))) q)
      refine Ev_aload_n (pc := 59) d_TB_pass_59 rfl ?_
      refine Ev_getI (pc := 60) d_TB_pass_60 rfl rfl rfl fl_TB_38 ?_
      refine Ev_ireturn (pc := 63) d_TB_pass_63 rfl rfl ?_
      rw [f_TB_pass, if_neg q1, if_pos q2] at k
      exact k
    · refine Ev_throw (pc := 10) d_TB_pass_10 d_TB_pass_13 d_TB_pass_14 d_TB_pass_16 d_TB_pass_19 rfl rfl th_TB_31_33_35 rfl hZ ?_
      rw [f_TB_pass, if_neg q1, if_neg q2] at k
      exact k
def m_TB_count_L33s_73 (h : ev_H) (x1 : Int32) (x2 : Int32) (a : Nat) (c3 : Int32) : Int32 := (if (gI h 1 a 0) = x1 then (if (gI h 1 a 8) = x2 then c3 + 1 else c3) else c3)
theorem c_TB_count_L33s_73 {E : ev_E} {P : Option ev_V ⊕ Nat → ev_H → Prop} {h : ev_H} {x1 : Int32} {x2 : Int32} {a : Nat} {c3 : Int32} (k : Ev E M_TB_count 33 [(0, vR 0 0), (1, vI x1), (2, vI x2), (3, vI (m_TB_count_L33s_73 h x1 x2 a c3)), (4, vI ((nI a) + 1))] [] h P) : Ev E M_TB_count 73 [(0, vR 0 0), (1, vI x1), (2, vI x2), (3, vI (m_TB_count_L33s_73 h x1 x2 a c3)), (4, vI (nI a))] [] h P := by
  refine Ev_iinc (d := 1) (pc := 73) d_TB_count_73 rfl (by decide) rfl ?_
  refine Ev_goto (tgt := 33) (pc := 76) d_TB_count_76 rfl ?_
  exact k
theorem c_TB_count_L33s {E : ev_E} {P : Option ev_V ⊕ Nat → ev_H → Prop} {h : ev_H} {x1 : Int32} {x2 : Int32} {a : Nat} {c3 : Int32} (q0 : ¬ (gI h 0 0 3) ≤ (nI a)) (hR : rfs h) (n2 : gR h 0 1 a = vR 1 a) (n3 : a < 48) (k : Ev E M_TB_count 33 [(0, vR 0 0), (1, vI x1), (2, vI x2), (3, vI (m_TB_count_L33s_73 h x1 x2 a c3)), (4, vI ((nI a) + 1))] [] h P) : Ev E M_TB_count 33 [(0, vR 0 0), (1, vI x1), (2, vI x2), (3, vI c3), (4, vI (nI a))] [] h P := by
  refine Ev_iload (pc := 33) d_TB_count_33 rfl ?_
  refine Ev_aload_n (pc := 35) d_TB_count_35 rfl ?_
  refine Ev_getI (pc := 36) d_TB_count_36 rfl rfl rfl fl_TB_42 ?_
  refine Ev_icmp_ge (tgt := 79) (pc := 39) d_TB_count_39 rfl (fun q => absurd q q0) (fun _ => ?_)
  refine Ev_aload_n (pc := 42) d_TB_count_42 rfl ?_
  refine Ev_getR (pc := 43) d_TB_count_43 rfl rfl rfl fl_TB_11 (rf_TB_0 hR) ?_
  refine Ev_iload (pc := 46) d_TB_count_46 rfl ?_
  refine Ev_aaldJ (pc := 48) d_TB_count_48 rfl rfl (Or.inl rfl) (nIp (Nat.lt_of_lt_of_le n3 (by decide))) (nIc (Nat.lt_of_lt_of_le n3 (by decide))) n3 n2 ?_
  refine Ev_getI (pc := 49) d_TB_count_49 rfl rfl rfl fl_TB_99 ?_
  refine Ev_iload_n (pc := 52) d_TB_count_52 rfl ?_
  refine Ev_icmp_ne (tgt := 73) (pc := 53) d_TB_count_53 rfl (fun q1 => ?_) (fun q1 => ?_)
  · have j := c_TB_count_L33s_73 (E := E) (P := P) (h := h) (x1 := x1) (x2 := x2) (a := a) (c3 := c3)  k
    rw [m_TB_count_L33s_73, if_neg q1] at j
    exact j
  · refine Ev_aload_n (pc := 56) d_TB_count_56 rfl ?_
    refine Ev_getR (pc := 57) d_TB_count_57 rfl rfl rfl fl_TB_11 (rf_TB_0 hR) ?_
    refine Ev_iload (pc := 60) d_TB_count_60 rfl ?_
    refine Ev_aaldJ (pc := 62) d_TB_count_62 rfl rfl (Or.inl rfl) (nIp (Nat.lt_of_lt_of_le n3 (by decide))) (nIc (Nat.lt_of_lt_of_le n3 (by decide))) n3 n2 ?_
    refine Ev_getI (pc := 63) d_TB_count_63 rfl rfl rfl fl_TB_82 ?_
    refine Ev_iload_n (pc := 66) d_TB_count_66 rfl ?_
    refine Ev_icmp_ne (tgt := 73) (pc := 67) d_TB_count_67 rfl (fun q3 => ?_) (fun q3 => ?_)
    · have j := c_TB_count_L33s_73 (E := E) (P := P) (h := h) (x1 := x1) (x2 := x2) (a := a) (c3 := c3)  k
      rw [m_TB_count_L33s_73, if_pos q1, if_neg q3] at j
      exact j
    · refine Ev_iinc (d := 1) (pc := 70) d_TB_count_70 rfl (by decide) rfl ?_
      have j := c_TB_count_L33s_73 (E := E) (P := P) (h := h) (x1 := x1) (x2 := x2) (a := a) (c3 := c3)  k
      rw [m_TB_count_L33s_73, if_pos q1, if_pos q3] at j
      exact j
def r_TB_count_L33 (h : ev_H) (x1 : Int32) (x2 : Int32) : Nat → Int32
  | 0 => 0
  | a + 1 => (m_TB_count_L33s_73 h x1 x2 a (r_TB_count_L33 h x1 x2 a))
theorem lp_TB_count_L33 {E : ev_E} {P : Option ev_V ⊕ Nat → ev_H → Prop} {h : ev_H} {x1 : Int32} {x2 : Int32} (n : Nat) (hn : n ≤ 48) (hb : (gI h 0 0 3) = nI n) (hR : rfs h) (n2 : ∀ a, a < n → gR h 0 1 a = vR 1 a) (k : Ev E M_TB_count 33 [(0, vR 0 0), (1, vI x1), (2, vI x2), (3, vI (r_TB_count_L33 h x1 x2 n)), (4, vI (nI n))] [] h P) : Ev E M_TB_count 33 [(0, vR 0 0), (1, vI x1), (2, vI x2), (3, vI 0), (4, vI 0)] [] h P := by
  refine Ev_for n (fun a => [(0, vR 0 0), (1, vI x1), (2, vI x2), (3, vI (r_TB_count_L33 h x1 x2 a)), (4, vI (nI a))]) (fun a => h) (fun a ha k => ?_) k
  have k2 : Ev E M_TB_count 33 [(0, vR 0 0), (1, vI x1), (2, vI x2), (3, vI (r_TB_count_L33 h x1 x2 (a + 1))), (4, vI (nI (a + 1)))] [] h P := k
  rw [nI_succ] at k2
  exact c_TB_count_L33s (by rw [hb]; exact nI_ge ha (Nat.lt_of_le_of_lt hn (by decide))) hR (n2 a ha) (Nat.lt_of_lt_of_le ha (Nat.le_trans hn (by decide))) k2
def f_TB_count (h : ev_H) (x1 : Int32) (x2 : Int32) : (Option ev_V ⊕ Nat) × ev_H := (if (f_TB_isBelow x1 4) = 0 then (.inr 0, nx h) else (if (f_TB_isBelow x2 6) = 0 then (.inr 0, nx h) else (.inl (some (vI (r_TB_count_L33 h x1 x2 (gI h 0 0 3).toNatClampNeg))), h)))
theorem c_TB_count {E : ev_E} {P : Option ev_V ⊕ Nat → ev_H → Prop} {h : ev_H} {x1 : Int32} {x2 : Int32} (hZ : cZ h < ZM) (n1 : (gI h 0 0 3).toNatClampNeg ≤ 48) (n2 : (gI h 0 0 3) = nI (gI h 0 0 3).toNatClampNeg) (hR : rfs h) (n4 : ∀ a, a < (gI h 0 0 3).toNatClampNeg → gR h 0 1 a = vR 1 a) (k : P (f_TB_count h x1 x2).1 (f_TB_count h x1 x2).2) : Ev E M_TB_count 0 [(0, vR 0 0), (1, vI x1), (2, vI x2)] [] h P := by
  refine Ev_iload_n (pc := 0) d_TB_count_0 rfl ?_
  refine Ev_iconst (v := 4) (pc := 1) d_TB_count_1 (by decide) ?_
  refine Ev_callS (M' := M_TB_isBelow) (as := [vI x1, vI 4]) (st := []) (pc := 2) d_TB_count_2 rfl rfl rfl s_TB_isBelow lk_TB_48 rfl rfl (c_TB_isBelow  ?_)
  refine Ev_if_eq (tgt := 17) (pc := 5) d_TB_count_5 rfl (fun q1 => ?_) (fun q1 => ?_)
  · refine Ev_throwW (pc := 17) d_TB_count_17 d_TB_count_20 d_TB_count_21 d_TB_count_24 d_TB_count_27 rfl rfl th_TB_31_313_35 rfl hZ ?_
    rw [f_TB_count, if_pos q1] at k
    exact k
  · refine Ev_iload_n (pc := 8) d_TB_count_8 rfl ?_
    refine Ev_bipush (v := 6) (pc := 9) d_TB_count_9 (by decide) ?_
    refine Ev_callS (M' := M_TB_isBelow) (as := [vI x2, vI 6]) (st := []) (pc := 11) d_TB_count_11 rfl rfl rfl s_TB_isBelow lk_TB_48 rfl rfl (c_TB_isBelow  ?_)
    refine Ev_if_ne (tgt := 28) (pc := 14) d_TB_count_14 rfl (fun q2 => ?_) (fun q2 => ?_)
    · refine Ev_iconst (v := 0) (pc := 28) d_TB_count_28 (by decide) ?_
      refine Ev_istore_n (pc := 29) d_TB_count_29 rfl ?_
      refine Ev_iconst (v := 0) (pc := 30) d_TB_count_30 (by decide) ?_
      refine Ev_istore (pc := 31) d_TB_count_31 rfl ?_
      refine lp_TB_count_L33 ((gI h 0 0 3).toNatClampNeg) n1 n2 hR n4 ?_
      refine Ev_iload (pc := 33) d_TB_count_33 rfl ?_
      refine Ev_aload_n (pc := 35) d_TB_count_35 rfl ?_
      refine Ev_getI (pc := 36) d_TB_count_36 rfl rfl rfl fl_TB_42 ?_
      refine Ev_icmp_ge (tgt := 79) (pc := 39) d_TB_count_39 rfl (fun _ => ?_) (fun q => absurd (lpx n2) q)
      refine Ev_iload_n (pc := 79) d_TB_count_79 rfl ?_
      refine Ev_ireturn (pc := 80) d_TB_count_80 rfl rfl ?_
      rw [f_TB_count, if_neg q1, if_neg q2] at k
      exact k
    · refine Ev_throwW (pc := 17) d_TB_count_17 d_TB_count_20 d_TB_count_21 d_TB_count_24 d_TB_count_27 rfl rfl th_TB_31_313_35 rfl hZ ?_
      rw [f_TB_count, if_neg q1, if_pos q2] at k
      exact k
def m_TB_handOver_L30s_56 (h : ev_H) (u : Nat) (x2 : Int32) (x3 : Int32) (a : Nat) (c4 : Int32) : Int32 := (if (f_UN_wentTo h a x2) = 0 then c4 else c4 + 1)
theorem c_TB_handOver_L30s_56 {E : ev_E} {P : Option ev_V ⊕ Nat → ev_H → Prop} {h : ev_H} {u : Nat} {x2 : Int32} {x3 : Int32} {a : Nat} {c4 : Int32} (k : Ev E M_TB_handOver 30 [(0, vR 0 0), (1, vR 1 u), (2, vI x2), (3, vI x3), (4, vI (m_TB_handOver_L30s_56 h u x2 x3 a c4)), (5, vI ((nI a) + 1))] [] h P) : Ev E M_TB_handOver 56 [(0, vR 0 0), (1, vR 1 u), (2, vI x2), (3, vI x3), (4, vI (m_TB_handOver_L30s_56 h u x2 x3 a c4)), (5, vI (nI a))] [] h P := by
  refine Ev_iinc (d := 1) (pc := 56) d_TB_handOver_56 rfl (by decide) rfl ?_
  refine Ev_goto (tgt := 30) (pc := 59) d_TB_handOver_59 rfl ?_
  exact k
theorem c_TB_handOver_L30s {E : ev_E} {P : Option ev_V ⊕ Nat → ev_H → Prop} {h : ev_H} {u : Nat} {x2 : Int32} {x3 : Int32} {a : Nat} {c4 : Int32} (q0 : ¬ (gI h 0 0 3) ≤ (nI a)) (hR : rfs h) (n2 : gR h 0 1 a = vR 1 a) (n3 : a < 48) (k : Ev E M_TB_handOver 30 [(0, vR 0 0), (1, vR 1 u), (2, vI x2), (3, vI x3), (4, vI (m_TB_handOver_L30s_56 h u x2 x3 a c4)), (5, vI ((nI a) + 1))] [] h P) : Ev E M_TB_handOver 30 [(0, vR 0 0), (1, vR 1 u), (2, vI x2), (3, vI x3), (4, vI c4), (5, vI (nI a))] [] h P := by
  refine Ev_iload (pc := 30) d_TB_handOver_30 rfl ?_
  refine Ev_aload_n (pc := 32) d_TB_handOver_32 rfl ?_
  refine Ev_getI (pc := 33) d_TB_handOver_33 rfl rfl rfl fl_TB_42 ?_
  refine Ev_icmp_ge (tgt := 62) (pc := 36) d_TB_handOver_36 rfl (fun q => absurd q q0) (fun _ => ?_)
  refine Ev_aload_n (pc := 39) d_TB_handOver_39 rfl ?_
  refine Ev_getR (pc := 40) d_TB_handOver_40 rfl rfl rfl fl_TB_11 (rf_TB_0 hR) ?_
  refine Ev_iload (pc := 43) d_TB_handOver_43 rfl ?_
  refine Ev_aaldJ (pc := 45) d_TB_handOver_45 rfl rfl (Or.inl rfl) (nIp (Nat.lt_of_lt_of_le n3 (by decide))) (nIc (Nat.lt_of_lt_of_le n3 (by decide))) n3 n2 ?_
  refine Ev_iload_n (pc := 46) d_TB_handOver_46 rfl ?_
  refine Ev_callV (M' := M_UN_wentTo) (as := [vI x2]) (st := []) (a := 1) (i := a) (pc := 47) d_TB_handOver_47 rfl rfl rfl rfl rfl rfl rfl v_UN_wentTo lk_TB_307 rfl rfl (c_UN_wentTo  ?_)
  refine Ev_if_eq (tgt := 56) (pc := 50) d_TB_handOver_50 rfl (fun q1 => ?_) (fun q1 => ?_)
  · have j := c_TB_handOver_L30s_56 (E := E) (P := P) (h := h) (u := u) (x2 := x2) (x3 := x3) (a := a) (c4 := c4)  k
    rw [m_TB_handOver_L30s_56, if_pos q1] at j
    exact j
  · refine Ev_iinc (d := 1) (pc := 53) d_TB_handOver_53 rfl (by decide) rfl ?_
    have j := c_TB_handOver_L30s_56 (E := E) (P := P) (h := h) (u := u) (x2 := x2) (x3 := x3) (a := a) (c4 := c4)  k
    rw [m_TB_handOver_L30s_56, if_neg q1] at j
    exact j
def r_TB_handOver_L30 (h : ev_H) (u : Nat) (x2 : Int32) (x3 : Int32) : Nat → Int32
  | 0 => 0
  | a + 1 => (m_TB_handOver_L30s_56 h u x2 x3 a (r_TB_handOver_L30 h u x2 x3 a))
theorem lp_TB_handOver_L30 {E : ev_E} {P : Option ev_V ⊕ Nat → ev_H → Prop} {h : ev_H} {u : Nat} {x2 : Int32} {x3 : Int32} (n : Nat) (hn : n ≤ 48) (hb : (gI h 0 0 3) = nI n) (hR : rfs h) (n2 : ∀ a, a < n → gR h 0 1 a = vR 1 a) (k : Ev E M_TB_handOver 30 [(0, vR 0 0), (1, vR 1 u), (2, vI x2), (3, vI x3), (4, vI (r_TB_handOver_L30 h u x2 x3 n)), (5, vI (nI n))] [] h P) : Ev E M_TB_handOver 30 [(0, vR 0 0), (1, vR 1 u), (2, vI x2), (3, vI x3), (4, vI 0), (5, vI 0)] [] h P := by
  refine Ev_for n (fun a => [(0, vR 0 0), (1, vR 1 u), (2, vI x2), (3, vI x3), (4, vI (r_TB_handOver_L30 h u x2 x3 a)), (5, vI (nI a))]) (fun a => h) (fun a ha k => ?_) k
  have k2 : Ev E M_TB_handOver 30 [(0, vR 0 0), (1, vR 1 u), (2, vI x2), (3, vI x3), (4, vI (r_TB_handOver_L30 h u x2 x3 (a + 1))), (5, vI (nI (a + 1)))] [] h P := k
  rw [nI_succ] at k2
  exact c_TB_handOver_L30s (by rw [hb]; exact nI_ge ha (Nat.lt_of_le_of_lt hn (by decide))) hR (n2 a ha) (Nat.lt_of_lt_of_le ha (Nat.le_trans hn (by decide))) k2
def f_TB_handOver (h : ev_H) (u : Nat) (x2 : Int32) (x3 : Int32) : Int32 × ev_H := ((r_TB_handOver_L30 (sI (f_UN_issueTo h u x2 (gI h 0 0 5) (gI h 0 0 7) x3) 0 0 7 ((gI (f_UN_issueTo h u x2 (gI h 0 0 5) (gI h 0 0 7) x3) 0 0 7) + 1)) u x2 x3 (gI (sI (f_UN_issueTo h u x2 (gI h 0 0 5) (gI h 0 0 7) x3) 0 0 7 ((gI (f_UN_issueTo h u x2 (gI h 0 0 5) (gI h 0 0 7) x3) 0 0 7) + 1)) 0 0 3).toNatClampNeg), (sI (f_UN_issueTo h u x2 (gI h 0 0 5) (gI h 0 0 7) x3) 0 0 7 ((gI (f_UN_issueTo h u x2 (gI h 0 0 5) (gI h 0 0 7) x3) 0 0 7) + 1)))
theorem c_TB_handOver {E : ev_E} {P : Option ev_V ⊕ Nat → ev_H → Prop} {h : ev_H} {u : Nat} {x2 : Int32} {x3 : Int32} (n0 : (gI h 0 0 3).toNatClampNeg ≤ 48) (n1 : (gI h 0 0 3) = nI (gI h 0 0 3).toNatClampNeg) (hR : rfs h) (n3 : ∀ a, a < (gI h 0 0 3).toNatClampNeg → gR (sI (f_UN_issueTo h u x2 (gI h 0 0 5) (gI h 0 0 7) x3) 0 0 7 ((gI (f_UN_issueTo h u x2 (gI h 0 0 5) (gI h 0 0 7) x3) 0 0 7) + 1)) 0 1 a = vR 1 a) (k : P (.inl (some (vI (f_TB_handOver h u x2 x3).1))) (f_TB_handOver h u x2 x3).2) : Ev E M_TB_handOver 0 [(0, vR 0 0), (1, vR 1 u), (2, vI x2), (3, vI x3)] [] h P := by
  refine Ev_aload_n (pc := 0) d_TB_handOver_0 rfl ?_
  refine Ev_iload_n (pc := 1) d_TB_handOver_1 rfl ?_
  refine Ev_aload_n (pc := 2) d_TB_handOver_2 rfl ?_
  refine Ev_getI (pc := 3) d_TB_handOver_3 rfl rfl rfl fl_TB_38 ?_
  refine Ev_aload_n (pc := 6) d_TB_handOver_6 rfl ?_
  refine Ev_getI (pc := 7) d_TB_handOver_7 rfl rfl rfl fl_TB_328 ?_
  refine Ev_iload_n (pc := 10) d_TB_handOver_10 rfl ?_
  refine Ev_callV (M' := M_UN_issueTo) (as := [vI x2, vI (gI h 0 0 5), vI (gI h 0 0 7), vI x3]) (st := []) (a := 1) (i := u) (pc := 11) d_TB_handOver_11 rfl rfl rfl rfl rfl rfl rfl v_UN_issueTo lk_TB_331 rfl rfl (c_UN_issueTo  ?_)
  refine Ev_aload_n (pc := 14) d_TB_handOver_14 rfl ?_
  refine Ev_dup (pc := 15) d_TB_handOver_15 rfl ?_
  refine Ev_getI (pc := 16) d_TB_handOver_16 rfl rfl rfl fl_TB_328 ?_
  refine Ev_iconst (v := 1) (pc := 19) d_TB_handOver_19 (by decide) ?_
  refine Ev_iadd (pc := 20) d_TB_handOver_20 ?_
  refine Ev_putI (pc := 21) d_TB_handOver_21 rfl rfl rfl fl_TB_328 rfl ?_
  refine Ev_iconst (v := 0) (pc := 24) d_TB_handOver_24 (by decide) ?_
  refine Ev_istore (pc := 25) d_TB_handOver_25 rfl ?_
  refine Ev_iconst (v := 0) (pc := 27) d_TB_handOver_27 (by decide) ?_
  refine Ev_istore (pc := 28) d_TB_handOver_28 rfl ?_
  refine lp_TB_handOver_L30 ((gI (sI (f_UN_issueTo h u x2 (gI h 0 0 5) (gI h 0 0 7) x3) 0 0 7 ((gI (f_UN_issueTo h u x2 (gI h 0 0 5) (gI h 0 0 7) x3) 0 0 7) + 1)) 0 0 3).toNatClampNeg) n0 n1 hR n3 ?_
  refine Ev_iload (pc := 30) d_TB_handOver_30 rfl ?_
  refine Ev_aload_n (pc := 32) d_TB_handOver_32 rfl ?_
  refine Ev_getI (pc := 33) d_TB_handOver_33 rfl rfl rfl fl_TB_42 ?_
  refine Ev_icmp_ge (tgt := 62) (pc := 36) d_TB_handOver_36 rfl (fun _ => ?_) (fun q => absurd (lpx n1) q)
  refine Ev_iload (pc := 62) d_TB_handOver_62 rfl ?_
  refine Ev_ireturn (pc := 64) d_TB_handOver_64 rfl rfl ?_
  rw [f_TB_handOver] at k
  exact k
def f_TB_issue (h : ev_H) (x1 : Int32) (x2 : Int32) : (Option ev_V ⊕ Nat) × ev_H := (if (f_TB_isBelow x1 (gI h 0 0 4)) = 0 then (.inr 2, nx h) else (if (f_TB_isBelow x2 (gI h 0 0 3)) = 0 then (.inr 2, nx h) else (if (f_TB_mayLeaveFor h x1 x2.toNatClampNeg) = 0 then (.inr 1, nx h) else (if (gI h 2 x1.toNatClampNeg 0) = 2 then (.inr 1, nx h) else (if (f_PA_hasFreshSample h x1.toNatClampNeg (gI h 0 0 5)) = 0 then (.inr 1, nx h) else (if (f_TB_isCleared h x1.toNatClampNeg x2.toNatClampNeg x2) = 0 then (.inr 3, nx h) else (.inl (some (vI ((f_TB_handOver h x2.toNatClampNeg x1 0).1))), (f_TB_handOver h x2.toNatClampNeg x1 0).2)))))))
theorem c_TB_issue {E : ev_E} {P : Option ev_V ⊕ Nat → ev_H → Prop} {h : ev_H} {x1 : Int32} {x2 : Int32} (hP : pok h) (hR : rfs h) (hZ : cZ h < ZM) (hU : uok h) (n4 : (gI h 0 0 3).toNatClampNeg ≤ 48) (n5 : (gI h 0 0 3) = nI (gI h 0 0 3).toNatClampNeg) (n6 : ∀ b, b < (gI h 0 0 3).toNatClampNeg → gR (sI (f_UN_issueTo h x2.toNatClampNeg x1 (gI h 0 0 5) (gI h 0 0 7) 0) 0 0 7 ((gI (f_UN_issueTo h x2.toNatClampNeg x1 (gI h 0 0 5) (gI h 0 0 7) 0) 0 0 7) + 1)) 0 1 b = vR 1 b) (k : P (f_TB_issue h x1 x2).1 (f_TB_issue h x1 x2).2) : Ev E M_TB_issue 0 [(0, vR 0 0), (1, vI x1), (2, vI x2)] [] h P := by
  refine Ev_aload_n (pc := 0) d_TB_issue_0 rfl ?_
  refine Ev_iload_n (pc := 1) d_TB_issue_1 rfl ?_
  by_cases q1 : (f_TB_isBelow x1 (gI h 0 0 4)) = 0
  · refine Ev_callV (M' := M_TB_patientAt) (as := [vI x1]) (st := []) (a := 0) (i := 0) (pc := 2) d_TB_issue_2 rfl rfl rfl rfl rfl rfl rfl v_TB_patientAt lk_TB_146 rfl rfl (c_TB_patientAt hR hP hZ ?_)
    rw [f_TB_patientAt, if_pos q1]
    refine Or.inl ⟨rfl, ?_⟩
    rw [f_TB_issue, if_pos q1] at k
    exact k
  · refine Ev_callV (M' := M_TB_patientAt) (as := [vI x1]) (st := []) (a := 0) (i := 0) (pc := 2) d_TB_issue_2 rfl rfl rfl rfl rfl rfl rfl v_TB_patientAt lk_TB_146 rfl rfl (c_TB_patientAt hR hP hZ ?_)
    rw [f_TB_patientAt, if_neg q1]
    refine Ev_astore_n (pc := 5) d_TB_issue_5 rfl ?_
    refine Ev_aload_n (pc := 6) d_TB_issue_6 rfl ?_
    refine Ev_iload_n (pc := 7) d_TB_issue_7 rfl ?_
    by_cases q2 : (f_TB_isBelow x2 (gI h 0 0 3)) = 0
    · refine Ev_callV (M' := M_TB_unitAt) (as := [vI x2]) (st := []) (a := 0) (i := 0) (pc := 8) d_TB_issue_8 rfl rfl rfl rfl rfl rfl rfl v_TB_unitAt lk_TB_76 rfl rfl (c_TB_unitAt hR hU hZ ?_)
      rw [f_TB_unitAt, if_pos q2]
      refine Or.inl ⟨rfl, ?_⟩
      rw [f_TB_issue, if_neg q1, if_pos q2] at k
      exact k
    · refine Ev_callV (M' := M_TB_unitAt) (as := [vI x2]) (st := []) (a := 0) (i := 0) (pc := 8) d_TB_issue_8 rfl rfl rfl rfl rfl rfl rfl v_TB_unitAt lk_TB_76 rfl rfl (c_TB_unitAt hR hU hZ ?_)
      rw [f_TB_unitAt, if_neg q2]
      refine Ev_astore (pc := 11) d_TB_issue_11 rfl ?_
      refine Ev_aload_n (pc := 13) d_TB_issue_13 rfl ?_
      refine Ev_iload_n (pc := 14) d_TB_issue_14 rfl ?_
      refine Ev_aload (pc := 15) d_TB_issue_15 rfl ?_
      refine Ev_callV (M' := M_TB_mayLeaveFor) (as := [vI x1, vR 1 x2.toNatClampNeg]) (st := []) (a := 0) (i := 0) (pc := 17) d_TB_issue_17 rfl rfl rfl rfl rfl rfl rfl v_TB_mayLeaveFor lk_TB_215 rfl rfl (c_TB_mayLeaveFor  ?_)
      refine Ev_if_eq (tgt := 42) (pc := 20) d_TB_issue_20 rfl (fun q3 => ?_) (fun q3 => ?_)
      · refine Ev_throw (pc := 42) d_TB_issue_42 d_TB_issue_45 d_TB_issue_46 d_TB_issue_48 d_TB_issue_51 rfl rfl th_TB_64_222_68 rfl hZ ?_
        rw [f_TB_issue, if_neg q1, if_neg q2, if_pos q3] at k
        exact k
      · refine Ev_aload_n (pc := 23) d_TB_issue_23 rfl ?_
        refine Ev_getI (pc := 24) d_TB_issue_24 rfl rfl rfl fl_TB_152 ?_
        refine Ev_iconst (v := 2) (pc := 27) d_TB_issue_27 (by decide) ?_
        refine Ev_icmp_eq (tgt := 42) (pc := 28) d_TB_issue_28 rfl (fun q4 => ?_) (fun q4 => ?_)
        · refine Ev_throw (pc := 42) d_TB_issue_42 d_TB_issue_45 d_TB_issue_46 d_TB_issue_48 d_TB_issue_51 rfl rfl th_TB_64_222_68 rfl hZ ?_
          rw [f_TB_issue, if_neg q1, if_neg q2, if_neg q3, if_pos q4] at k
          exact k
        · refine Ev_aload_n (pc := 31) d_TB_issue_31 rfl ?_
          refine Ev_aload_n (pc := 32) d_TB_issue_32 rfl ?_
          refine Ev_getI (pc := 33) d_TB_issue_33 rfl rfl rfl fl_TB_38 ?_
          refine Ev_callV (M' := M_PA_hasFreshSample) (as := [vI (gI h 0 0 5)]) (st := []) (a := 2) (i := x1.toNatClampNeg) (pc := 36) d_TB_issue_36 rfl rfl rfl rfl rfl rfl rfl v_PA_hasFreshSample lk_TB_219 rfl rfl (c_PA_hasFreshSample  ?_)
          refine Ev_if_ne (tgt := 52) (pc := 39) d_TB_issue_39 rfl (fun q5 => ?_) (fun q5 => ?_)
          · refine Ev_aload_n (pc := 52) d_TB_issue_52 rfl ?_
            refine Ev_aload_n (pc := 53) d_TB_issue_53 rfl ?_
            refine Ev_aload (pc := 54) d_TB_issue_54 rfl ?_
            refine Ev_iload_n (pc := 56) d_TB_issue_56 rfl ?_
            refine Ev_callV (M' := M_TB_isCleared) (as := [vR 2 x1.toNatClampNeg, vR 1 x2.toNatClampNeg, vI x2]) (st := []) (a := 0) (i := 0) (pc := 57) d_TB_issue_57 rfl rfl rfl rfl rfl rfl rfl v_TB_isCleared lk_TB_195 rfl rfl (c_TB_isCleared (hP _ q1).2.2.2 (hU _ q2).1 (hU _ q2).2.1 ?_)
            refine Ev_if_ne (tgt := 73) (pc := 60) d_TB_issue_60 rfl (fun q6 => ?_) (fun q6 => ?_)
            · refine Ev_aload_n (pc := 73) d_TB_issue_73 rfl ?_
              refine Ev_aload (pc := 74) d_TB_issue_74 rfl ?_
              refine Ev_iload_n (pc := 76) d_TB_issue_76 rfl ?_
              refine Ev_iconst (v := 0) (pc := 77) d_TB_issue_77 (by decide) ?_
              refine Ev_callV (M' := M_TB_handOver) (as := [vR 1 x2.toNatClampNeg, vI x1, vI 0]) (st := []) (a := 0) (i := 0) (pc := 78) d_TB_issue_78 rfl rfl rfl rfl rfl rfl rfl v_TB_handOver lk_TB_224 rfl rfl (c_TB_handOver n4 n5 hR n6 ?_)
              refine Ev_ireturn (pc := 81) d_TB_issue_81 rfl rfl ?_
              rw [f_TB_issue, if_neg q1, if_neg q2, if_neg q3, if_neg q4, if_neg q5, if_neg q6] at k
              exact k
            · refine Ev_throw (pc := 63) d_TB_issue_63 d_TB_issue_66 d_TB_issue_67 d_TB_issue_69 d_TB_issue_72 rfl rfl th_TB_105_199_109 rfl hZ ?_
              rw [f_TB_issue, if_neg q1, if_neg q2, if_neg q3, if_neg q4, if_neg q5, if_pos q6] at k
              exact k
          · refine Ev_throw (pc := 42) d_TB_issue_42 d_TB_issue_45 d_TB_issue_46 d_TB_issue_48 d_TB_issue_51 rfl rfl th_TB_64_222_68 rfl hZ ?_
            rw [f_TB_issue, if_neg q1, if_neg q2, if_neg q3, if_neg q4, if_pos q5] at k
            exact k
def f_TB_emergency (h : ev_H) (x1 : Int32) (x2 : Int32) (x3 : Int32) : (Option ev_V ⊕ Nat) × ev_H := (if (f_TB_isBelow x1 (gI h 0 0 4)) = 0 then (.inr 2, nx h) else (if (f_TB_isBelow x2 (gI h 0 0 3)) = 0 then (.inr 2, nx h) else (if x3 < 1 then (.inr 0, nx h) else (if x3 ≤ 999 then (if (f_TB_mayLeaveFor h x1 x2.toNatClampNeg) = 0 then (.inr 1, nx h) else (if (gI h 2 x1.toNatClampNeg 0) = 2 then (.inr 1, nx h) else (if (f_UN_isForEmergencies h x2.toNatClampNeg) = 0 then (.inr 3, nx h) else (if (f_RU_reason h x1.toNatClampNeg x2.toNatClampNeg) = 0 then (.inl (some (vI ((f_TB_handOver h x2.toNatClampNeg x1 x3).1))), (f_TB_handOver h x2.toNatClampNeg x1 x3).2) else (.inr 3, nx h))))) else (.inr 0, nx h)))))
theorem c_TB_emergency {E : ev_E} {P : Option ev_V ⊕ Nat → ev_H → Prop} {h : ev_H} {x1 : Int32} {x2 : Int32} {x3 : Int32} (hP : pok h) (hR : rfs h) (hZ : cZ h < ZM) (hU : uok h) (n4 : (gI h 0 0 3).toNatClampNeg ≤ 48) (n5 : (gI h 0 0 3) = nI (gI h 0 0 3).toNatClampNeg) (n6 : ∀ b, b < (gI h 0 0 3).toNatClampNeg → gR (sI (f_UN_issueTo h x2.toNatClampNeg x1 (gI h 0 0 5) (gI h 0 0 7) x3) 0 0 7 ((gI (f_UN_issueTo h x2.toNatClampNeg x1 (gI h 0 0 5) (gI h 0 0 7) x3) 0 0 7) + 1)) 0 1 b = vR 1 b) (k : P (f_TB_emergency h x1 x2 x3).1 (f_TB_emergency h x1 x2 x3).2) : Ev E M_TB_emergency 0 [(0, vR 0 0), (1, vI x1), (2, vI x2), (3, vI x3)] [] h P := by
  refine Ev_aload_n (pc := 0) d_TB_emergency_0 rfl ?_
  refine Ev_iload_n (pc := 1) d_TB_emergency_1 rfl ?_
  by_cases q1 : (f_TB_isBelow x1 (gI h 0 0 4)) = 0
  · refine Ev_callV (M' := M_TB_patientAt) (as := [vI x1]) (st := []) (a := 0) (i := 0) (pc := 2) d_TB_emergency_2 rfl rfl rfl rfl rfl rfl rfl v_TB_patientAt lk_TB_146 rfl rfl (c_TB_patientAt hR hP hZ ?_)
    rw [f_TB_patientAt, if_pos q1]
    refine Or.inl ⟨rfl, ?_⟩
    rw [f_TB_emergency, if_pos q1] at k
    exact k
  · refine Ev_callV (M' := M_TB_patientAt) (as := [vI x1]) (st := []) (a := 0) (i := 0) (pc := 2) d_TB_emergency_2 rfl rfl rfl rfl rfl rfl rfl v_TB_patientAt lk_TB_146 rfl rfl (c_TB_patientAt hR hP hZ ?_)
    rw [f_TB_patientAt, if_neg q1]
    refine Ev_astore (pc := 5) d_TB_emergency_5 rfl ?_
    refine Ev_aload_n (pc := 7) d_TB_emergency_7 rfl ?_
    refine Ev_iload_n (pc := 8) d_TB_emergency_8 rfl ?_
    by_cases q2 : (f_TB_isBelow x2 (gI h 0 0 3)) = 0
    · refine Ev_callV (M' := M_TB_unitAt) (as := [vI x2]) (st := []) (a := 0) (i := 0) (pc := 9) d_TB_emergency_9 rfl rfl rfl rfl rfl rfl rfl v_TB_unitAt lk_TB_76 rfl rfl (c_TB_unitAt hR hU hZ ?_)
      rw [f_TB_unitAt, if_pos q2]
      refine Or.inl ⟨rfl, ?_⟩
      rw [f_TB_emergency, if_neg q1, if_pos q2] at k
      exact k
    · refine Ev_callV (M' := M_TB_unitAt) (as := [vI x2]) (st := []) (a := 0) (i := 0) (pc := 9) d_TB_emergency_9 rfl rfl rfl rfl rfl rfl rfl v_TB_unitAt lk_TB_76 rfl rfl (c_TB_unitAt hR hU hZ ?_)
      rw [f_TB_unitAt, if_neg q2]
      refine Ev_astore (pc := 12) d_TB_emergency_12 rfl ?_
      refine Ev_iload_n (pc := 14) d_TB_emergency_14 rfl ?_
      refine Ev_iconst (v := 1) (pc := 15) d_TB_emergency_15 (by decide) ?_
      refine Ev_icmp_lt (tgt := 26) (pc := 16) d_TB_emergency_16 rfl (fun q3 => ?_) (fun q3 => ?_)
      · refine Ev_throw (pc := 26) d_TB_emergency_26 d_TB_emergency_29 d_TB_emergency_30 d_TB_emergency_32 d_TB_emergency_35 rfl rfl th_TB_31_228_35 rfl hZ ?_
        rw [f_TB_emergency, if_neg q1, if_neg q2, if_pos q3] at k
        exact k
      · refine Ev_iload_n (pc := 19) d_TB_emergency_19 rfl ?_
        refine Ev_sipush (v := 999) (pc := 20) d_TB_emergency_20 (by decide) ?_
        refine Ev_icmp_le (tgt := 36) (pc := 23) d_TB_emergency_23 rfl (fun q4 => ?_) (fun q4 => ?_)
        · refine Ev_aload_n (pc := 36) d_TB_emergency_36 rfl ?_
          refine Ev_iload_n (pc := 37) d_TB_emergency_37 rfl ?_
          refine Ev_aload (pc := 38) d_TB_emergency_38 rfl ?_
          refine Ev_callV (M' := M_TB_mayLeaveFor) (as := [vI x1, vR 1 x2.toNatClampNeg]) (st := []) (a := 0) (i := 0) (pc := 40) d_TB_emergency_40 rfl rfl rfl rfl rfl rfl rfl v_TB_mayLeaveFor lk_TB_215 rfl rfl (c_TB_mayLeaveFor  ?_)
          refine Ev_if_eq (tgt := 55) (pc := 43) d_TB_emergency_43 rfl (fun q5 => ?_) (fun q5 => ?_)
          · refine Ev_throw (pc := 55) d_TB_emergency_55 d_TB_emergency_58 d_TB_emergency_59 d_TB_emergency_61 d_TB_emergency_64 rfl rfl th_TB_64_222_68 rfl hZ ?_
            rw [f_TB_emergency, if_neg q1, if_neg q2, if_neg q3, if_pos q4, if_pos q5] at k
            exact k
          · refine Ev_aload (pc := 46) d_TB_emergency_46 rfl ?_
            refine Ev_getI (pc := 48) d_TB_emergency_48 rfl rfl rfl fl_TB_152 ?_
            refine Ev_iconst (v := 2) (pc := 51) d_TB_emergency_51 (by decide) ?_
            refine Ev_icmp_ne (tgt := 65) (pc := 52) d_TB_emergency_52 rfl (fun q6 => ?_) (fun q6 => ?_)
            · refine Ev_aload (pc := 65) d_TB_emergency_65 rfl ?_
              refine Ev_callV (M' := M_UN_isForEmergencies) (as := []) (st := []) (a := 1) (i := x2.toNatClampNeg) (pc := 67) d_TB_emergency_67 rfl rfl rfl rfl rfl rfl rfl v_UN_isForEmergencies lk_TB_230 rfl rfl (c_UN_isForEmergencies  ?_)
              refine Ev_if_eq (tgt := 83) (pc := 70) d_TB_emergency_70 rfl (fun q7 => ?_) (fun q7 => ?_)
              · refine Ev_throw (pc := 83) d_TB_emergency_83 d_TB_emergency_86 d_TB_emergency_87 d_TB_emergency_89 d_TB_emergency_92 rfl rfl th_TB_105_239_109 rfl hZ ?_
                rw [f_TB_emergency, if_neg q1, if_neg q2, if_neg q3, if_pos q4, if_neg q5, if_neg q6, if_pos q7] at k
                exact k
              · refine Ev_aload (pc := 73) d_TB_emergency_73 rfl ?_
                refine Ev_aload (pc := 75) d_TB_emergency_75 rfl ?_
                refine Ev_callS (M' := M_RU_reason) (as := [vR 2 x1.toNatClampNeg, vR 1 x2.toNatClampNeg]) (st := []) (pc := 77) d_TB_emergency_77 rfl rfl rfl s_RU_reason lk_TB_233 rfl rfl (c_RU_reason  ?_)
                refine Ev_if_eq (tgt := 93) (pc := 80) d_TB_emergency_80 rfl (fun q8 => ?_) (fun q8 => ?_)
                · refine Ev_aload_n (pc := 93) d_TB_emergency_93 rfl ?_
                  refine Ev_aload (pc := 94) d_TB_emergency_94 rfl ?_
                  refine Ev_iload_n (pc := 96) d_TB_emergency_96 rfl ?_
                  refine Ev_iload_n (pc := 97) d_TB_emergency_97 rfl ?_
                  refine Ev_callV (M' := M_TB_handOver) (as := [vR 1 x2.toNatClampNeg, vI x1, vI x3]) (st := []) (a := 0) (i := 0) (pc := 98) d_TB_emergency_98 rfl rfl rfl rfl rfl rfl rfl v_TB_handOver lk_TB_224 rfl rfl (c_TB_handOver n4 n5 hR n6 ?_)
                  refine Ev_ireturn (pc := 101) d_TB_emergency_101 rfl rfl ?_
                  rw [f_TB_emergency, if_neg q1, if_neg q2, if_neg q3, if_pos q4, if_neg q5, if_neg q6, if_neg q7, if_pos q8] at k
                  exact k
                · refine Ev_throw (pc := 83) d_TB_emergency_83 d_TB_emergency_86 d_TB_emergency_87 d_TB_emergency_89 d_TB_emergency_92 rfl rfl th_TB_105_239_109 rfl hZ ?_
                  rw [f_TB_emergency, if_neg q1, if_neg q2, if_neg q3, if_pos q4, if_neg q5, if_neg q6, if_neg q7, if_neg q8] at k
                  exact k
            · refine Ev_throw (pc := 55) d_TB_emergency_55 d_TB_emergency_58 d_TB_emergency_59 d_TB_emergency_61 d_TB_emergency_64 rfl rfl th_TB_64_222_68 rfl hZ ?_
              rw [f_TB_emergency, if_neg q1, if_neg q2, if_neg q3, if_pos q4, if_neg q5, if_pos q6] at k
              exact k
        · refine Ev_throw (pc := 26) d_TB_emergency_26 d_TB_emergency_29 d_TB_emergency_30 d_TB_emergency_32 d_TB_emergency_35 rfl rfl th_TB_31_228_35 rfl hZ ?_
          rw [f_TB_emergency, if_neg q1, if_neg q2, if_neg q3, if_neg q4] at k
          exact k
def m_TB_firstIssue_L5s_62 (h : ev_H) (x1 : Int32) (x2 : Int32) (a : Nat) (c3 : Int32) : Int32 := (if (f_UN_wentTo h a x1) = 0 then c3 else (if ((gI h 1 a 3) &&& x2) = 0 then c3 else (if c3 = (-1) then gI h 1 a 12 else (if c3 ≤ (gI h 1 a 12) then c3 else gI h 1 a 12))))
theorem c_TB_firstIssue_L5s_62 {E : ev_E} {P : Option ev_V ⊕ Nat → ev_H → Prop} {h : ev_H} {x1 : Int32} {x2 : Int32} {a : Nat} {c3 : Int32} (k : Ev E M_TB_firstIssue 5 [(0, vR 0 0), (1, vI x1), (2, vI x2), (3, vI (m_TB_firstIssue_L5s_62 h x1 x2 a c3)), (4, vI ((nI a) + 1))] [] h P) : Ev E M_TB_firstIssue 62 [(0, vR 0 0), (1, vI x1), (2, vI x2), (3, vI (m_TB_firstIssue_L5s_62 h x1 x2 a c3)), (4, vI (nI a)), (5, vR 1 a)] [] h P := by
  refine Ev_iinc (d := 1) (pc := 62) d_TB_firstIssue_62 rfl (by decide) rfl ?_
  refine Ev_goto (tgt := 5) (pc := 65) d_TB_firstIssue_65 rfl ?_
  refine Ev_sub (lsub ?_) k
  exact (And.intro rfl (And.intro rfl (And.intro rfl (And.intro rfl (And.intro rfl trivial)))))
theorem c_TB_firstIssue_L5s {E : ev_E} {P : Option ev_V ⊕ Nat → ev_H → Prop} {h : ev_H} {x1 : Int32} {x2 : Int32} {a : Nat} {c3 : Int32} (q0 : ¬ (gI h 0 0 3) ≤ (nI a)) (hR : rfs h) (n2 : gR h 0 1 a = vR 1 a) (n3 : a < 48) (k : Ev E M_TB_firstIssue 5 [(0, vR 0 0), (1, vI x1), (2, vI x2), (3, vI (m_TB_firstIssue_L5s_62 h x1 x2 a c3)), (4, vI ((nI a) + 1))] [] h P) : Ev E M_TB_firstIssue 5 [(0, vR 0 0), (1, vI x1), (2, vI x2), (3, vI c3), (4, vI (nI a))] [] h P := by
  refine Ev_iload (pc := 5) d_TB_firstIssue_5 rfl ?_
  refine Ev_aload_n (pc := 7) d_TB_firstIssue_7 rfl ?_
  refine Ev_getI (pc := 8) d_TB_firstIssue_8 rfl rfl rfl fl_TB_42 ?_
  refine Ev_icmp_ge (tgt := 68) (pc := 11) d_TB_firstIssue_11 rfl (fun q => absurd q q0) (fun _ => ?_)
  refine Ev_aload_n (pc := 14) d_TB_firstIssue_14 rfl ?_
  refine Ev_getR (pc := 15) d_TB_firstIssue_15 rfl rfl rfl fl_TB_11 (rf_TB_0 hR) ?_
  refine Ev_iload (pc := 18) d_TB_firstIssue_18 rfl ?_
  refine Ev_aaldJ (pc := 20) d_TB_firstIssue_20 rfl rfl (Or.inl rfl) (nIp (Nat.lt_of_lt_of_le n3 (by decide))) (nIc (Nat.lt_of_lt_of_le n3 (by decide))) n3 n2 ?_
  refine Ev_astore (pc := 21) d_TB_firstIssue_21 rfl ?_
  refine Ev_aload (pc := 23) d_TB_firstIssue_23 rfl ?_
  refine Ev_iload_n (pc := 25) d_TB_firstIssue_25 rfl ?_
  refine Ev_callV (M' := M_UN_wentTo) (as := [vI x1]) (st := []) (a := 1) (i := a) (pc := 26) d_TB_firstIssue_26 rfl rfl rfl rfl rfl rfl rfl v_UN_wentTo lk_TB_307 rfl rfl (c_UN_wentTo  ?_)
  refine Ev_if_eq (tgt := 62) (pc := 29) d_TB_firstIssue_29 rfl (fun q1 => ?_) (fun q1 => ?_)
  · have j := c_TB_firstIssue_L5s_62 (E := E) (P := P) (h := h) (x1 := x1) (x2 := x2) (a := a) (c3 := c3)  k
    rw [m_TB_firstIssue_L5s_62, if_pos q1] at j
    exact j
  · refine Ev_aload (pc := 32) d_TB_firstIssue_32 rfl ?_
    refine Ev_getI (pc := 34) d_TB_firstIssue_34 rfl rfl rfl fl_TB_335 ?_
    refine Ev_iload_n (pc := 37) d_TB_firstIssue_37 rfl ?_
    refine Ev_iand (pc := 38) d_TB_firstIssue_38 ?_
    refine Ev_if_eq (tgt := 62) (pc := 39) d_TB_firstIssue_39 rfl (fun q5 => ?_) (fun q5 => ?_)
    · have j := c_TB_firstIssue_L5s_62 (E := E) (P := P) (h := h) (x1 := x1) (x2 := x2) (a := a) (c3 := c3)  k
      rw [m_TB_firstIssue_L5s_62, if_neg q1, if_pos q5] at j
      exact j
    · refine Ev_iload_n (pc := 42) d_TB_firstIssue_42 rfl ?_
      refine Ev_iconst (v := -1) (pc := 43) d_TB_firstIssue_43 (by decide) ?_
      refine Ev_icmp_eq (tgt := 56) (pc := 44) d_TB_firstIssue_44 rfl (fun q6 => ?_) (fun q6 => ?_)
      · refine Ev_aload (pc := 56) d_TB_firstIssue_56 rfl ?_
        refine Ev_getI (pc := 58) d_TB_firstIssue_58 rfl rfl rfl fl_TB_310 ?_
        refine Ev_istore_n (pc := 61) d_TB_firstIssue_61 rfl ?_
        have j := c_TB_firstIssue_L5s_62 (E := E) (P := P) (h := h) (x1 := x1) (x2 := x2) (a := a) (c3 := c3)  k
        rw [m_TB_firstIssue_L5s_62, if_neg q1, if_neg q5, if_pos q6] at j
        exact j
      · refine Ev_aload (pc := 47) d_TB_firstIssue_47 rfl ?_
        refine Ev_getI (pc := 49) d_TB_firstIssue_49 rfl rfl rfl fl_TB_310 ?_
        refine Ev_iload_n (pc := 52) d_TB_firstIssue_52 rfl ?_
        refine Ev_icmp_ge (tgt := 62) (pc := 53) d_TB_firstIssue_53 rfl (fun q7 => ?_) (fun q7 => ?_)
        · have j := c_TB_firstIssue_L5s_62 (E := E) (P := P) (h := h) (x1 := x1) (x2 := x2) (a := a) (c3 := c3)  k
          rw [m_TB_firstIssue_L5s_62, if_neg q1, if_neg q5, if_neg q6, if_pos q7] at j
          exact j
        · refine Ev_aload (pc := 56) d_TB_firstIssue_56 rfl ?_
          refine Ev_getI (pc := 58) d_TB_firstIssue_58 rfl rfl rfl fl_TB_310 ?_
          refine Ev_istore_n (pc := 61) d_TB_firstIssue_61 rfl ?_
          have j := c_TB_firstIssue_L5s_62 (E := E) (P := P) (h := h) (x1 := x1) (x2 := x2) (a := a) (c3 := c3)  k
          rw [m_TB_firstIssue_L5s_62, if_neg q1, if_neg q5, if_neg q6, if_neg q7] at j
          exact j
def r_TB_firstIssue_L5 (h : ev_H) (x1 : Int32) (x2 : Int32) : Nat → Int32
  | 0 => -1
  | a + 1 => (m_TB_firstIssue_L5s_62 h x1 x2 a (r_TB_firstIssue_L5 h x1 x2 a))
theorem lp_TB_firstIssue_L5 {E : ev_E} {P : Option ev_V ⊕ Nat → ev_H → Prop} {h : ev_H} {x1 : Int32} {x2 : Int32} (n : Nat) (hn : n ≤ 48) (hb : (gI h 0 0 3) = nI n) (hR : rfs h) (n2 : ∀ a, a < n → gR h 0 1 a = vR 1 a) (k : Ev E M_TB_firstIssue 5 [(0, vR 0 0), (1, vI x1), (2, vI x2), (3, vI (r_TB_firstIssue_L5 h x1 x2 n)), (4, vI (nI n))] [] h P) : Ev E M_TB_firstIssue 5 [(0, vR 0 0), (1, vI x1), (2, vI x2), (3, vI (-1)), (4, vI 0)] [] h P := by
  refine Ev_for n (fun a => [(0, vR 0 0), (1, vI x1), (2, vI x2), (3, vI (r_TB_firstIssue_L5 h x1 x2 a)), (4, vI (nI a))]) (fun a => h) (fun a ha k => ?_) k
  have k2 : Ev E M_TB_firstIssue 5 [(0, vR 0 0), (1, vI x1), (2, vI x2), (3, vI (r_TB_firstIssue_L5 h x1 x2 (a + 1))), (4, vI (nI (a + 1)))] [] h P := k
  rw [nI_succ] at k2
  exact c_TB_firstIssue_L5s (by rw [hb]; exact nI_ge ha (Nat.lt_of_le_of_lt hn (by decide))) hR (n2 a ha) (Nat.lt_of_lt_of_le ha (Nat.le_trans hn (by decide))) k2
def f_TB_firstIssue (h : ev_H) (x1 : Int32) (x2 : Int32) : Int32 := (r_TB_firstIssue_L5 h x1 x2 (gI h 0 0 3).toNatClampNeg)
theorem c_TB_firstIssue {E : ev_E} {P : Option ev_V ⊕ Nat → ev_H → Prop} {h : ev_H} {x1 : Int32} {x2 : Int32} (n0 : (gI h 0 0 3).toNatClampNeg ≤ 48) (n1 : (gI h 0 0 3) = nI (gI h 0 0 3).toNatClampNeg) (hR : rfs h) (n3 : ∀ a, a < (gI h 0 0 3).toNatClampNeg → gR h 0 1 a = vR 1 a) (k : P (.inl (some (vI (f_TB_firstIssue h x1 x2)))) h) : Ev E M_TB_firstIssue 0 [(0, vR 0 0), (1, vI x1), (2, vI x2)] [] h P := by
  refine Ev_iconst (v := -1) (pc := 0) d_TB_firstIssue_0 (by decide) ?_
  refine Ev_istore_n (pc := 1) d_TB_firstIssue_1 rfl ?_
  refine Ev_iconst (v := 0) (pc := 2) d_TB_firstIssue_2 (by decide) ?_
  refine Ev_istore (pc := 3) d_TB_firstIssue_3 rfl ?_
  refine lp_TB_firstIssue_L5 ((gI h 0 0 3).toNatClampNeg) n0 n1 hR n3 ?_
  refine Ev_iload (pc := 5) d_TB_firstIssue_5 rfl ?_
  refine Ev_aload_n (pc := 7) d_TB_firstIssue_7 rfl ?_
  refine Ev_getI (pc := 8) d_TB_firstIssue_8 rfl rfl rfl fl_TB_42 ?_
  refine Ev_icmp_ge (tgt := 68) (pc := 11) d_TB_firstIssue_11 rfl (fun _ => ?_) (fun q => absurd (lpx n1) q)
  refine Ev_iload_n (pc := 68) d_TB_firstIssue_68 rfl ?_
  refine Ev_ireturn (pc := 69) d_TB_firstIssue_69 rfl rfl ?_
  rw [f_TB_firstIssue] at k
  exact k
theorem c_RK_ins_go {E : ev_E} {P : Option ev_V ⊕ Nat → ev_H → Prop} {h : ev_H} {x1 : Int32} {x2 : Int32} {a : Nat} (q0 : ¬ (nI (a + 1)) ≤ 0) (q1 : ¬ (gI h 0 5 a) ≤ x2) (n9 : a + 1 < 48) (hR : rfs h) (k : Ev E M_RK_insert 18 [(0, vR 0 3), (1, vI x1), (2, vI x2), (3, vI ((nI (a + 1)) + (-1)))] [] (sI (sI h 0 4 (a + 1) (gI h 0 4 a)) 0 5 (a + 1) (gI (sI h 0 4 (a + 1) (gI h 0 4 a)) 0 5 a)) P) : Ev E M_RK_insert 18 [(0, vR 0 3), (1, vI x1), (2, vI x2), (3, vI (nI (a + 1)))] [] h P := by
  refine Ev_iload_n (pc := 18) d_RK_insert_18 rfl ?_
  refine Ev_if_le (tgt := 68) (pc := 19) d_RK_insert_19 rfl (fun q => absurd q q0) (fun _ => ?_)
  refine Ev_aload_n (pc := 22) d_RK_insert_22 rfl ?_
  refine Ev_getR (pc := 23) d_RK_insert_23 rfl rfl rfl fl_RK_15 (rf_RK_1 hR) ?_
  refine Ev_iload_n (pc := 26) d_RK_insert_26 rfl ?_
  refine Ev_iconst (v := 1) (pc := 27) d_RK_insert_27 (by decide) ?_
  refine Ev_isub (pc := 28) d_RK_insert_28 ?_
  refine Ev_ialdJ (pc := 29) d_RK_insert_29 rfl rfl (by rw [nI_pred]; exact nIp (Nat.lt_of_lt_of_le (Nat.lt_of_succ_lt n9) (by decide))) (by rw [nI_pred]; exact nIc (Nat.lt_of_lt_of_le (Nat.lt_of_succ_lt n9) (by decide))) (Nat.lt_of_succ_lt n9) ?_
  refine Ev_iload_n (pc := 30) d_RK_insert_30 rfl ?_
  refine Ev_icmp_le (tgt := 68) (pc := 31) d_RK_insert_31 rfl (fun q => absurd q q1) (fun _ => ?_)
  refine Ev_aload_n (pc := 34) d_RK_insert_34 rfl ?_
  refine Ev_getR (pc := 35) d_RK_insert_35 rfl rfl rfl fl_RK_9 (rf_RK_0 hR) ?_
  refine Ev_iload_n (pc := 38) d_RK_insert_38 rfl ?_
  refine Ev_aload_n (pc := 39) d_RK_insert_39 rfl ?_
  refine Ev_getR (pc := 40) d_RK_insert_40 rfl rfl rfl fl_RK_9 (rf_RK_0 hR) ?_
  refine Ev_iload_n (pc := 43) d_RK_insert_43 rfl ?_
  refine Ev_iconst (v := 1) (pc := 44) d_RK_insert_44 (by decide) ?_
  refine Ev_isub (pc := 45) d_RK_insert_45 ?_
  refine Ev_ialdJ (pc := 46) d_RK_insert_46 rfl rfl (by rw [nI_pred]; exact nIp (Nat.lt_of_lt_of_le (Nat.lt_of_succ_lt n9) (by decide))) (by rw [nI_pred]; exact nIc (Nat.lt_of_lt_of_le (Nat.lt_of_succ_lt n9) (by decide))) (Nat.lt_of_succ_lt n9) ?_
  refine Ev_iastJ (pc := 47) d_RK_insert_47 rfl rfl (nIp (Nat.lt_of_lt_of_le n9 (by decide))) (nIc (Nat.lt_of_lt_of_le n9 (by decide))) n9 ?_
  refine Ev_aload_n (pc := 48) d_RK_insert_48 rfl ?_
  refine Ev_getR (pc := 49) d_RK_insert_49 rfl rfl rfl fl_RK_15 (rf_RK_1 hR) ?_
  refine Ev_iload_n (pc := 52) d_RK_insert_52 rfl ?_
  refine Ev_aload_n (pc := 53) d_RK_insert_53 rfl ?_
  refine Ev_getR (pc := 54) d_RK_insert_54 rfl rfl rfl fl_RK_15 (rf_RK_1 hR) ?_
  refine Ev_iload_n (pc := 57) d_RK_insert_57 rfl ?_
  refine Ev_iconst (v := 1) (pc := 58) d_RK_insert_58 (by decide) ?_
  refine Ev_isub (pc := 59) d_RK_insert_59 ?_
  refine Ev_ialdJ (pc := 60) d_RK_insert_60 rfl rfl (by rw [nI_pred]; exact nIp (Nat.lt_of_lt_of_le (Nat.lt_of_succ_lt n9) (by decide))) (by rw [nI_pred]; exact nIc (Nat.lt_of_lt_of_le (Nat.lt_of_succ_lt n9) (by decide))) (Nat.lt_of_succ_lt n9) ?_
  refine Ev_iastJ (pc := 61) d_RK_insert_61 rfl rfl (nIp (Nat.lt_of_lt_of_le n9 (by decide))) (nIc (Nat.lt_of_lt_of_le n9 (by decide))) n9 ?_
  refine Ev_iinc (d := -1) (pc := 62) d_RK_insert_62 rfl (by decide) rfl ?_
  refine Ev_goto (tgt := 18) (pc := 65) d_RK_insert_65 rfl ?_
  exact k
theorem c_RK_ins_at {E : ev_E} {P : Option ev_V ⊕ Nat → ev_H → Prop} {h : ev_H} {x1 : Int32} {x2 : Int32} {a : Nat} (q0 : ¬ (nI (a + 1)) ≤ 0) (q1 : (gI h 0 5 a) ≤ x2) (n9 : a + 1 < 48) (hR : rfs h) (k : P (.inl none) (sI (sI (sI h 0 4 (a + 1) x1) 0 5 (a + 1) x2) 0 3 2 ((gI (sI (sI h 0 4 (a + 1) x1) 0 5 (a + 1) x2) 0 3 2) + 1))) : Ev E M_RK_insert 18 [(0, vR 0 3), (1, vI x1), (2, vI x2), (3, vI (nI (a + 1)))] [] h P := by
  refine Ev_iload_n (pc := 18) d_RK_insert_18 rfl ?_
  refine Ev_if_le (tgt := 68) (pc := 19) d_RK_insert_19 rfl (fun q => absurd q q0) (fun _ => ?_)
  refine Ev_aload_n (pc := 22) d_RK_insert_22 rfl ?_
  refine Ev_getR (pc := 23) d_RK_insert_23 rfl rfl rfl fl_RK_15 (rf_RK_1 hR) ?_
  refine Ev_iload_n (pc := 26) d_RK_insert_26 rfl ?_
  refine Ev_iconst (v := 1) (pc := 27) d_RK_insert_27 (by decide) ?_
  refine Ev_isub (pc := 28) d_RK_insert_28 ?_
  refine Ev_ialdJ (pc := 29) d_RK_insert_29 rfl rfl (by rw [nI_pred]; exact nIp (Nat.lt_of_lt_of_le (Nat.lt_of_succ_lt n9) (by decide))) (by rw [nI_pred]; exact nIc (Nat.lt_of_lt_of_le (Nat.lt_of_succ_lt n9) (by decide))) (Nat.lt_of_succ_lt n9) ?_
  refine Ev_iload_n (pc := 30) d_RK_insert_30 rfl ?_
  refine Ev_icmp_le (tgt := 68) (pc := 31) d_RK_insert_31 rfl (fun _ => ?_) (fun q => absurd q1 q)
  refine Ev_aload_n (pc := 68) d_RK_insert_68 rfl ?_
  refine Ev_getR (pc := 69) d_RK_insert_69 rfl rfl rfl fl_RK_9 (rf_RK_0 hR) ?_
  refine Ev_iload_n (pc := 72) d_RK_insert_72 rfl ?_
  refine Ev_iload_n (pc := 73) d_RK_insert_73 rfl ?_
  refine Ev_iastJ (pc := 74) d_RK_insert_74 rfl rfl (nIp (Nat.lt_of_lt_of_le n9 (by decide))) (nIc (Nat.lt_of_lt_of_le n9 (by decide))) n9 ?_
  refine Ev_aload_n (pc := 75) d_RK_insert_75 rfl ?_
  refine Ev_getR (pc := 76) d_RK_insert_76 rfl rfl rfl fl_RK_15 (rf_RK_1 hR) ?_
  refine Ev_iload_n (pc := 79) d_RK_insert_79 rfl ?_
  refine Ev_iload_n (pc := 80) d_RK_insert_80 rfl ?_
  refine Ev_iastJ (pc := 81) d_RK_insert_81 rfl rfl (nIp (Nat.lt_of_lt_of_le n9 (by decide))) (nIc (Nat.lt_of_lt_of_le n9 (by decide))) n9 ?_
  refine Ev_aload_n (pc := 82) d_RK_insert_82 rfl ?_
  refine Ev_dup (pc := 83) d_RK_insert_83 rfl ?_
  refine Ev_getI (pc := 84) d_RK_insert_84 rfl rfl rfl fl_RK_18 ?_
  refine Ev_iconst (v := 1) (pc := 87) d_RK_insert_87 (by decide) ?_
  refine Ev_iadd (pc := 88) d_RK_insert_88 ?_
  refine Ev_putI (pc := 89) d_RK_insert_89 rfl rfl rfl fl_RK_18 rfl ?_
  refine Ev_return (pc := 92) d_RK_insert_92 rfl ?_
  exact k
theorem c_RK_ins_0 {E : ev_E} {P : Option ev_V ⊕ Nat → ev_H → Prop} {h : ev_H} {x1 : Int32} {x2 : Int32} (hR : rfs h) (k : P (.inl none) (sI (sI (sI h 0 4 0 x1) 0 5 0 x2) 0 3 2 ((gI (sI (sI h 0 4 0 x1) 0 5 0 x2) 0 3 2) + 1))) : Ev E M_RK_insert 18 [(0, vR 0 3), (1, vI x1), (2, vI x2), (3, vI 0)] [] h P := by
  refine Ev_iload_n (pc := 18) d_RK_insert_18 rfl ?_
  refine Ev_if_le (tgt := 68) (pc := 19) d_RK_insert_19 rfl (fun _ => ?_) (fun q => absurd q (by decide))
  refine Ev_aload_n (pc := 68) d_RK_insert_68 rfl ?_
  refine Ev_getR (pc := 69) d_RK_insert_69 rfl rfl rfl fl_RK_9 (rf_RK_0 hR) ?_
  refine Ev_iload_n (pc := 72) d_RK_insert_72 rfl ?_
  refine Ev_iload_n (pc := 73) d_RK_insert_73 rfl ?_
  refine Ev_iast (pc := 74) d_RK_insert_74 rfl rfl (by decide) (by decide) ?_
  refine Ev_aload_n (pc := 75) d_RK_insert_75 rfl ?_
  refine Ev_getR (pc := 76) d_RK_insert_76 rfl rfl rfl fl_RK_15 (rf_RK_1 hR) ?_
  refine Ev_iload_n (pc := 79) d_RK_insert_79 rfl ?_
  refine Ev_iload_n (pc := 80) d_RK_insert_80 rfl ?_
  refine Ev_iast (pc := 81) d_RK_insert_81 rfl rfl (by decide) (by decide) ?_
  refine Ev_aload_n (pc := 82) d_RK_insert_82 rfl ?_
  refine Ev_dup (pc := 83) d_RK_insert_83 rfl ?_
  refine Ev_getI (pc := 84) d_RK_insert_84 rfl rfl rfl fl_RK_18 ?_
  refine Ev_iconst (v := 1) (pc := 87) d_RK_insert_87 (by decide) ?_
  refine Ev_iadd (pc := 88) d_RK_insert_88 ?_
  refine Ev_putI (pc := 89) d_RK_insert_89 rfl rfl rfl fl_RK_18 rfl ?_
  refine Ev_return (pc := 92) d_RK_insert_92 rfl ?_
  exact k
theorem c_RK_ins_in {E : ev_E} {P : Option ev_V ⊕ Nat → ev_H → Prop} {h : ev_H} {x1 : Int32} {x2 : Int32} (q0 : (gI h 0 3 2) < (Int32.ofNat 48)) (hR : rfs h) (k : Ev E M_RK_insert 18 [(0, vR 0 3), (1, vI x1), (2, vI x2), (3, vI (gI h 0 3 2))] [] h P) : Ev E M_RK_insert 0 [(0, vR 0 3), (1, vI x1), (2, vI x2)] [] h P := by
  refine Ev_aload_n (pc := 0) d_RK_insert_0 rfl ?_
  refine Ev_getI (pc := 1) d_RK_insert_1 rfl rfl rfl fl_RK_18 ?_
  refine Ev_aload_n (pc := 4) d_RK_insert_4 rfl ?_
  refine Ev_getR (pc := 5) d_RK_insert_5 rfl rfl rfl fl_RK_9 (rf_RK_0 hR) ?_
  refine Ev_alen (pc := 8) d_RK_insert_8 rfl rfl ?_
  refine Ev_icmp_lt (tgt := 13) (pc := 9) d_RK_insert_9 rfl (fun _ => ?_) (fun q => absurd q0 q)
  refine Ev_aload_n (pc := 13) d_RK_insert_13 rfl ?_
  refine Ev_getI (pc := 14) d_RK_insert_14 rfl rfl rfl fl_RK_18 ?_
  refine Ev_istore_n (pc := 17) d_RK_insert_17 rfl ?_
  exact k
/-- where a number goes in, and the heap with the others moved on -/
def insL (x2 : Int32) : Nat → ev_H → Nat × ev_H
  | 0, h => (0, h)
  | a + 1, h => if gI h 0 5 a ≤ x2 then (a + 1, h) else insL x2 a (sI (sI h 0 4 (a + 1) (gI h 0 4 a)) 0 5 (a + 1) (gI (sI h 0 4 (a + 1) (gI h 0 4 a)) 0 5 a))
def insE (x1 x2 : Int32) (r : Nat × ev_H) : ev_H := sI (sI (sI r.2 0 4 r.1 x1) 0 5 r.1 x2) 0 3 2 ((gI (sI (sI r.2 0 4 r.1 x1) 0 5 r.1 x2) 0 3 2) + 1)
def f_RK_insert (h : ev_H) (x1 x2 : Int32) : ev_H := insE x1 x2 (insL x2 (gI h 0 3 2).toNatClampNeg h)
theorem nI_m1 (a : Nat) : nI (a + 1) + (-1) = nI a := by
  rw [← Int32.sub_eq_add_neg, nI_pred]
theorem lp_RK_insert {E : ev_E} {P : Option ev_V ⊕ Nat → ev_H → Prop} {x1 x2 : Int32} : ∀ (a : Nat) (h : ev_H), a < 48 → rfs h → P (.inl none) (insE x1 x2 (insL x2 a h)) → Ev E M_RK_insert 18 [(0, vR 0 3), (1, vI x1), (2, vI x2), (3, vI (nI a))] [] h P
  | 0, h, _, hR, k => c_RK_ins_0 hR k
  | a + 1, h, ha, hR, k => by
    have q0 : ¬ nI (a + 1) ≤ 0 := nI_nle (Nat.succ_pos a) (Nat.lt_of_lt_of_le ha (by decide))
    by_cases q1 : gI h 0 5 a ≤ x2
    · rw [insL, if_pos q1] at k
      exact c_RK_ins_at q0 q1 ha hR k
    · rw [insL, if_neg q1] at k
      refine c_RK_ins_go q0 q1 ha hR ?_
      rw [nI_m1]
      exact lp_RK_insert a _ (Nat.lt_of_succ_lt ha) hR k
theorem c_RK_insert {E : ev_E} {P : Option ev_V ⊕ Nat → ev_H → Prop} {h : ev_H} {x1 x2 : Int32} (hR : rfs h) (n1 : (gI h 0 3 2) = nI (gI h 0 3 2).toNatClampNeg) (n2 : (gI h 0 3 2).toNatClampNeg < 48) (k : P (.inl none) (f_RK_insert h x1 x2)) : Ev E M_RK_insert 0 [(0, vR 0 3), (1, vI x1), (2, vI x2)] [] h P := by
  have hq : (gI h 0 3 2) < (Int32.ofNat 48) := by
    rw [n1]
    exact nI_lt n2 (by decide)
  refine c_RK_ins_in hq hR ?_
  rw [n1]
  exact lp_RK_insert _ h n2 hR k
def m_TB_quarantine_L54s_96 (h : ev_H) (x1 : Int32) (x2 : Int32) (x3 : Int32) (a : Nat) (c4 : Int32) : Int32 := (if (f_UN_isInHouse h a) = 0 then c4 else (if (f_UN_isBarred h a (gI h 0 0 6)) = 0 then c4 else c4 + 1))
theorem c_TB_quarantine_L54s_96 {E : ev_E} {P : Option ev_V ⊕ Nat → ev_H → Prop} {h : ev_H} {x1 : Int32} {x2 : Int32} {x3 : Int32} {a : Nat} {c4 : Int32} (k : Ev E M_TB_quarantine 54 [(0, vR 0 0), (1, vI x1), (2, vI x2), (3, vI x3), (4, vI (m_TB_quarantine_L54s_96 h x1 x2 x3 a c4)), (5, vI ((nI a) + 1))] [] h P) : Ev E M_TB_quarantine 96 [(0, vR 0 0), (1, vI x1), (2, vI x2), (3, vI x3), (4, vI (m_TB_quarantine_L54s_96 h x1 x2 x3 a c4)), (5, vI (nI a))] [] h P := by
  refine Ev_iinc (d := 1) (pc := 96) d_TB_quarantine_96 rfl (by decide) rfl ?_
  refine Ev_goto (tgt := 54) (pc := 99) d_TB_quarantine_99 rfl ?_
  exact k
theorem c_TB_quarantine_L54s {E : ev_E} {P : Option ev_V ⊕ Nat → ev_H → Prop} {h : ev_H} {x1 : Int32} {x2 : Int32} {x3 : Int32} {a : Nat} {c4 : Int32} (q0 : ¬ (gI h 0 0 3) ≤ (nI a)) (hR : rfs h) (n2 : gR h 0 1 a = vR 1 a) (n3 : a < 48) (k : Ev E M_TB_quarantine 54 [(0, vR 0 0), (1, vI x1), (2, vI x2), (3, vI x3), (4, vI (m_TB_quarantine_L54s_96 h x1 x2 x3 a c4)), (5, vI ((nI a) + 1))] [] h P) : Ev E M_TB_quarantine 54 [(0, vR 0 0), (1, vI x1), (2, vI x2), (3, vI x3), (4, vI c4), (5, vI (nI a))] [] h P := by
  refine Ev_iload (pc := 54) d_TB_quarantine_54 rfl ?_
  refine Ev_aload_n (pc := 56) d_TB_quarantine_56 rfl ?_
  refine Ev_getI (pc := 57) d_TB_quarantine_57 rfl rfl rfl fl_TB_42 ?_
  refine Ev_icmp_ge (tgt := 102) (pc := 60) d_TB_quarantine_60 rfl (fun q => absurd q q0) (fun _ => ?_)
  refine Ev_aload_n (pc := 63) d_TB_quarantine_63 rfl ?_
  refine Ev_getR (pc := 64) d_TB_quarantine_64 rfl rfl rfl fl_TB_11 (rf_TB_0 hR) ?_
  refine Ev_iload (pc := 67) d_TB_quarantine_67 rfl ?_
  refine Ev_aaldJ (pc := 69) d_TB_quarantine_69 rfl rfl (Or.inl rfl) (nIp (Nat.lt_of_lt_of_le n3 (by decide))) (nIc (Nat.lt_of_lt_of_le n3 (by decide))) n3 n2 ?_
  refine Ev_callV (M' := M_UN_isInHouse) (as := []) (st := []) (a := 1) (i := a) (pc := 70) d_TB_quarantine_70 rfl rfl rfl rfl rfl rfl rfl v_UN_isInHouse lk_TB_182 rfl rfl (c_UN_isInHouse  ?_)
  refine Ev_if_eq (tgt := 96) (pc := 73) d_TB_quarantine_73 rfl (fun q1 => ?_) (fun q1 => ?_)
  · have j := c_TB_quarantine_L54s_96 (E := E) (P := P) (h := h) (x1 := x1) (x2 := x2) (x3 := x3) (a := a) (c4 := c4)  k
    rw [m_TB_quarantine_L54s_96, if_pos q1] at j
    exact j
  · refine Ev_aload_n (pc := 76) d_TB_quarantine_76 rfl ?_
    refine Ev_getR (pc := 77) d_TB_quarantine_77 rfl rfl rfl fl_TB_11 (rf_TB_0 hR) ?_
    refine Ev_iload (pc := 80) d_TB_quarantine_80 rfl ?_
    refine Ev_aaldJ (pc := 82) d_TB_quarantine_82 rfl rfl (Or.inl rfl) (nIp (Nat.lt_of_lt_of_le n3 (by decide))) (nIc (Nat.lt_of_lt_of_le n3 (by decide))) n3 n2 ?_
    refine Ev_aload_n (pc := 83) d_TB_quarantine_83 rfl ?_
    refine Ev_getI (pc := 84) d_TB_quarantine_84 rfl rfl rfl fl_TB_257 ?_
    refine Ev_callV (M' := M_UN_isBarred) (as := [vI (gI h 0 0 6)]) (st := []) (a := 1) (i := a) (pc := 87) d_TB_quarantine_87 rfl rfl rfl rfl rfl rfl rfl v_UN_isBarred lk_TB_260 rfl rfl (c_UN_isBarred  ?_)
    refine Ev_if_eq (tgt := 96) (pc := 90) d_TB_quarantine_90 rfl (fun q3 => ?_) (fun q3 => ?_)
    · have j := c_TB_quarantine_L54s_96 (E := E) (P := P) (h := h) (x1 := x1) (x2 := x2) (x3 := x3) (a := a) (c4 := c4)  k
      rw [m_TB_quarantine_L54s_96, if_neg q1, if_pos q3] at j
      exact j
    · refine Ev_iinc (d := 1) (pc := 93) d_TB_quarantine_93 rfl (by decide) rfl ?_
      have j := c_TB_quarantine_L54s_96 (E := E) (P := P) (h := h) (x1 := x1) (x2 := x2) (x3 := x3) (a := a) (c4 := c4)  k
      rw [m_TB_quarantine_L54s_96, if_neg q1, if_neg q3] at j
      exact j
def r_TB_quarantine_L54 (h : ev_H) (x1 : Int32) (x2 : Int32) (x3 : Int32) : Nat → Int32
  | 0 => 0
  | a + 1 => (m_TB_quarantine_L54s_96 h x1 x2 x3 a (r_TB_quarantine_L54 h x1 x2 x3 a))
theorem lp_TB_quarantine_L54 {E : ev_E} {P : Option ev_V ⊕ Nat → ev_H → Prop} {h : ev_H} {x1 : Int32} {x2 : Int32} {x3 : Int32} (n : Nat) (hn : n ≤ 48) (hb : (gI h 0 0 3) = nI n) (hR : rfs h) (n2 : ∀ a, a < n → gR h 0 1 a = vR 1 a) (k : Ev E M_TB_quarantine 54 [(0, vR 0 0), (1, vI x1), (2, vI x2), (3, vI x3), (4, vI (r_TB_quarantine_L54 h x1 x2 x3 n)), (5, vI (nI n))] [] h P) : Ev E M_TB_quarantine 54 [(0, vR 0 0), (1, vI x1), (2, vI x2), (3, vI x3), (4, vI 0), (5, vI 0)] [] h P := by
  refine Ev_for n (fun a => [(0, vR 0 0), (1, vI x1), (2, vI x2), (3, vI x3), (4, vI (r_TB_quarantine_L54 h x1 x2 x3 a)), (5, vI (nI a))]) (fun a => h) (fun a ha k => ?_) k
  have k2 : Ev E M_TB_quarantine 54 [(0, vR 0 0), (1, vI x1), (2, vI x2), (3, vI x3), (4, vI (r_TB_quarantine_L54 h x1 x2 x3 (a + 1))), (5, vI (nI (a + 1)))] [] h P := k
  rw [nI_succ] at k2
  exact c_TB_quarantine_L54s (by rw [hb]; exact nI_ge ha (Nat.lt_of_le_of_lt hn (by decide))) hR (n2 a ha) (Nat.lt_of_lt_of_le ha (Nat.le_trans hn (by decide))) k2
def m_TB_quarantine_45 (h : ev_H) (x1 : Int32) (x2 : Int32) : Int32 := (if x2 = 0 then (gI h 0 0 6) &&& ((1 <<< (x1 &&& 31)) ^^^ (-1)) else (gI h 0 0 6) ||| (1 <<< (x1 &&& 31)))
def f_TB_quarantine_45 (h : ev_H) (x1 : Int32) (x2 : Int32) : (Option ev_V ⊕ Nat) × ev_H := (.inl (some (vI (r_TB_quarantine_L54 (sI h 0 0 6 (m_TB_quarantine_45 h x1 x2)) x1 x2 (1 <<< (x1 &&& 31)) (gI (sI h 0 0 6 (m_TB_quarantine_45 h x1 x2)) 0 0 3).toNatClampNeg))), sI h 0 0 6 (m_TB_quarantine_45 h x1 x2))
theorem c_TB_quarantine_45 {E : ev_E} {P : Option ev_V ⊕ Nat → ev_H → Prop} {h : ev_H} {x1 : Int32} {x2 : Int32} (n1 : (gI h 0 0 3).toNatClampNeg ≤ 48) (n2 : (gI h 0 0 3) = nI (gI h 0 0 3).toNatClampNeg) (hR : rfs h) (n4 : ∀ a, a < (gI h 0 0 3).toNatClampNeg → gR (sI h 0 0 6 (m_TB_quarantine_45 h x1 x2)) 0 1 a = vR 1 a) (k : P (f_TB_quarantine_45 h x1 x2).1 (f_TB_quarantine_45 h x1 x2).2) : Ev E M_TB_quarantine 45 [(0, vR 0 0), (1, vI x1), (2, vI x2), (3, vI (1 <<< (x1 &&& 31)))] [vI (m_TB_quarantine_45 h x1 x2), vR 0 0] h P := by
  refine Ev_putI (pc := 45) d_TB_quarantine_45 rfl rfl rfl fl_TB_257 rfl ?_
  refine Ev_iconst (v := 0) (pc := 48) d_TB_quarantine_48 (by decide) ?_
  refine Ev_istore (pc := 49) d_TB_quarantine_49 rfl ?_
  refine Ev_iconst (v := 0) (pc := 51) d_TB_quarantine_51 (by decide) ?_
  refine Ev_istore (pc := 52) d_TB_quarantine_52 rfl ?_
  refine lp_TB_quarantine_L54 ((gI (sI h 0 0 6 (m_TB_quarantine_45 h x1 x2)) 0 0 3).toNatClampNeg) n1 n2 hR n4 ?_
  refine Ev_iload (pc := 54) d_TB_quarantine_54 rfl ?_
  refine Ev_aload_n (pc := 56) d_TB_quarantine_56 rfl ?_
  refine Ev_getI (pc := 57) d_TB_quarantine_57 rfl rfl rfl fl_TB_42 ?_
  refine Ev_icmp_ge (tgt := 102) (pc := 60) d_TB_quarantine_60 rfl (fun _ => ?_) (fun q => absurd (lpx n2) q)
  refine Ev_iload (pc := 102) d_TB_quarantine_102 rfl ?_
  refine Ev_ireturn (pc := 104) d_TB_quarantine_104 rfl rfl ?_
  rw [f_TB_quarantine_45] at k
  exact k
def f_TB_quarantine (h : ev_H) (x1 : Int32) (x2 : Int32) : (Option ev_V ⊕ Nat) × ev_H := (if (f_TB_isBelow x1 16) = 0 then (.inr 0, nx h) else f_TB_quarantine_45 h x1 x2)
theorem c_TB_quarantine {E : ev_E} {P : Option ev_V ⊕ Nat → ev_H → Prop} {h : ev_H} {x1 : Int32} {x2 : Int32} (n0 : (gI h 0 0 3).toNatClampNeg ≤ 48) (n1 : (gI h 0 0 3) = nI (gI h 0 0 3).toNatClampNeg) (hR : rfs h) (n3 : ∀ a, a < (gI h 0 0 3).toNatClampNeg → gR (sI h 0 0 6 (m_TB_quarantine_45 h x1 x2)) 0 1 a = vR 1 a) (hZ : cZ h < ZM) (k : P (f_TB_quarantine h x1 x2).1 (f_TB_quarantine h x1 x2).2) : Ev E M_TB_quarantine 0 [(0, vR 0 0), (1, vI x1), (2, vI x2)] [] h P := by
  refine Ev_iload_n (pc := 0) d_TB_quarantine_0 rfl ?_
  refine Ev_bipush (v := 16) (pc := 1) d_TB_quarantine_1 (by decide) ?_
  refine Ev_callS (M' := M_TB_isBelow) (as := [vI x1, vI 16]) (st := []) (pc := 3) d_TB_quarantine_3 rfl rfl rfl s_TB_isBelow lk_TB_48 rfl rfl (c_TB_isBelow  ?_)
  refine Ev_if_ne (tgt := 19) (pc := 6) d_TB_quarantine_6 rfl (fun q1 => ?_) (fun q1 => ?_)
  · refine Ev_iconst (v := 1) (pc := 19) d_TB_quarantine_19 (by decide) ?_
    refine Ev_iload_n (pc := 20) d_TB_quarantine_20 rfl ?_
    refine Ev_ishl (pc := 21) d_TB_quarantine_21 ?_
    refine Ev_istore_n (pc := 22) d_TB_quarantine_22 rfl ?_
    refine Ev_aload_n (pc := 23) d_TB_quarantine_23 rfl ?_
    refine Ev_iload_n (pc := 24) d_TB_quarantine_24 rfl ?_
    refine Ev_if_eq (tgt := 37) (pc := 25) d_TB_quarantine_25 rfl (fun q2 => ?_) (fun q2 => ?_)
    · refine Ev_aload_n (pc := 37) d_TB_quarantine_37 rfl ?_
      refine Ev_getI (pc := 38) d_TB_quarantine_38 rfl rfl rfl fl_TB_257 ?_
      refine Ev_iload_n (pc := 41) d_TB_quarantine_41 rfl ?_
      refine Ev_iconst (v := -1) (pc := 42) d_TB_quarantine_42 (by decide) ?_
      refine Ev_ixor (pc := 43) d_TB_quarantine_43 ?_
      refine Ev_iand (pc := 44) d_TB_quarantine_44 ?_
      rw [f_TB_quarantine, if_neg q1] at k
      have j := c_TB_quarantine_45 (E := E) (P := P) (h := h) (x1 := x1) (x2 := x2) n0 n1 hR n3 k
      rw [m_TB_quarantine_45, if_pos q2] at j
      exact j
    · refine Ev_aload_n (pc := 28) d_TB_quarantine_28 rfl ?_
      refine Ev_getI (pc := 29) d_TB_quarantine_29 rfl rfl rfl fl_TB_257 ?_
      refine Ev_iload_n (pc := 32) d_TB_quarantine_32 rfl ?_
      refine Ev_ior (pc := 33) d_TB_quarantine_33 ?_
      refine Ev_goto (tgt := 45) (pc := 34) d_TB_quarantine_34 rfl ?_
      rw [f_TB_quarantine, if_neg q1] at k
      have j := c_TB_quarantine_45 (E := E) (P := P) (h := h) (x1 := x1) (x2 := x2) n0 n1 hR n3 k
      rw [m_TB_quarantine_45, if_neg q2] at j
      exact j
  · refine Ev_throw (pc := 9) d_TB_quarantine_9 d_TB_quarantine_12 d_TB_quarantine_13 d_TB_quarantine_15 d_TB_quarantine_18 rfl rfl th_TB_31_255_35 rfl hZ ?_
    rw [f_TB_quarantine, if_pos q1] at k
    exact k
def m_TB_stock_L75s_142 (h : ev_H) (x1 : Int32) (x2 : Int32) (x3 : Int32) (x4 : Int32) (x5 : Int32) (a : Nat) (c6 : Int32) : Int32 := (if (gI h 1 a 0) = x1 then (if x4 = 0 then (if (gI h 1 a 1) = x2 then (if x5 = 0 then (if (gI h 1 a 2) = x3 then (if (f_TB_isReady h a) = 0 then c6 else c6 + 1) else c6) else (if (f_TB_isReady h a) = 0 then c6 else c6 + 1)) else c6) else (if x5 = 0 then (if (gI h 1 a 2) = x3 then (if (f_TB_isReady h a) = 0 then c6 else c6 + 1) else c6) else (if (f_TB_isReady h a) = 0 then c6 else c6 + 1))) else c6)
theorem c_TB_stock_L75s_142 {E : ev_E} {P : Option ev_V ⊕ Nat → ev_H → Prop} {h : ev_H} {x1 : Int32} {x2 : Int32} {x3 : Int32} {x4 : Int32} {x5 : Int32} {a : Nat} {c6 : Int32} (k : Ev E M_TB_stock 75 [(0, vR 0 0), (1, vI x1), (2, vI x2), (3, vI x3), (4, vI x4), (5, vI x5), (6, vI (m_TB_stock_L75s_142 h x1 x2 x3 x4 x5 a c6)), (7, vI ((nI a) + 1))] [] h P) : Ev E M_TB_stock 142 [(0, vR 0 0), (1, vI x1), (2, vI x2), (3, vI x3), (4, vI x4), (5, vI x5), (6, vI (m_TB_stock_L75s_142 h x1 x2 x3 x4 x5 a c6)), (7, vI (nI a)), (8, vR 1 a)] [] h P := by
  refine Ev_iinc (d := 1) (pc := 142) d_TB_stock_142 rfl (by decide) rfl ?_
  refine Ev_goto (tgt := 75) (pc := 145) d_TB_stock_145 rfl ?_
  refine Ev_sub (lsub ?_) k
  exact (And.intro rfl (And.intro rfl (And.intro rfl (And.intro rfl (And.intro rfl (And.intro rfl (And.intro rfl (And.intro rfl trivial))))))))
theorem c_TB_stock_L75s {E : ev_E} {P : Option ev_V ⊕ Nat → ev_H → Prop} {h : ev_H} {x1 : Int32} {x2 : Int32} {x3 : Int32} {x4 : Int32} {x5 : Int32} {a : Nat} {c6 : Int32} (q0 : ¬ (gI h 0 0 3) ≤ (nI a)) (hR : rfs h) (n2 : gR h 0 1 a = vR 1 a) (n3 : a < 48) (k : Ev E M_TB_stock 75 [(0, vR 0 0), (1, vI x1), (2, vI x2), (3, vI x3), (4, vI x4), (5, vI x5), (6, vI (m_TB_stock_L75s_142 h x1 x2 x3 x4 x5 a c6)), (7, vI ((nI a) + 1))] [] h P) : Ev E M_TB_stock 75 [(0, vR 0 0), (1, vI x1), (2, vI x2), (3, vI x3), (4, vI x4), (5, vI x5), (6, vI c6), (7, vI (nI a))] [] h P := by
  refine Ev_iload (pc := 75) d_TB_stock_75 rfl ?_
  refine Ev_aload_n (pc := 77) d_TB_stock_77 rfl ?_
  refine Ev_getI (pc := 78) d_TB_stock_78 rfl rfl rfl fl_TB_42 ?_
  refine Ev_icmp_ge (tgt := 148) (pc := 81) d_TB_stock_81 rfl (fun q => absurd q q0) (fun _ => ?_)
  refine Ev_aload_n (pc := 84) d_TB_stock_84 rfl ?_
  refine Ev_getR (pc := 85) d_TB_stock_85 rfl rfl rfl fl_TB_11 (rf_TB_0 hR) ?_
  refine Ev_iload (pc := 88) d_TB_stock_88 rfl ?_
  refine Ev_aaldJ (pc := 90) d_TB_stock_90 rfl rfl (Or.inl rfl) (nIp (Nat.lt_of_lt_of_le n3 (by decide))) (nIc (Nat.lt_of_lt_of_le n3 (by decide))) n3 n2 ?_
  refine Ev_astore (pc := 91) d_TB_stock_91 rfl ?_
  refine Ev_aload (pc := 93) d_TB_stock_93 rfl ?_
  refine Ev_getI (pc := 95) d_TB_stock_95 rfl rfl rfl fl_TB_99 ?_
  refine Ev_iload_n (pc := 98) d_TB_stock_98 rfl ?_
  refine Ev_icmp_ne (tgt := 142) (pc := 99) d_TB_stock_99 rfl (fun q1 => ?_) (fun q1 => ?_)
  · have j := c_TB_stock_L75s_142 (E := E) (P := P) (h := h) (x1 := x1) (x2 := x2) (x3 := x3) (x4 := x4) (x5 := x5) (a := a) (c6 := c6)  k
    rw [m_TB_stock_L75s_142, if_neg q1] at j
    exact j
  · refine Ev_iload (pc := 102) d_TB_stock_102 rfl ?_
    refine Ev_if_ne (tgt := 116) (pc := 104) d_TB_stock_104 rfl (fun q12 => ?_) (fun q12 => ?_)
    · refine Ev_iload (pc := 116) d_TB_stock_116 rfl ?_
      refine Ev_if_ne (tgt := 130) (pc := 118) d_TB_stock_118 rfl (fun q13 => ?_) (fun q13 => ?_)
      · refine Ev_aload_n (pc := 130) d_TB_stock_130 rfl ?_
        refine Ev_aload (pc := 131) d_TB_stock_131 rfl ?_
        refine Ev_callV (M' := M_TB_isReady) (as := [vR 1 a]) (st := []) (a := 0) (i := 0) (pc := 133) d_TB_stock_133 rfl rfl rfl rfl rfl rfl rfl v_TB_isReady lk_TB_93 rfl rfl (c_TB_isReady  ?_)
        refine Ev_if_eq (tgt := 142) (pc := 136) d_TB_stock_136 rfl (fun q14 => ?_) (fun q14 => ?_)
        · have j := c_TB_stock_L75s_142 (E := E) (P := P) (h := h) (x1 := x1) (x2 := x2) (x3 := x3) (x4 := x4) (x5 := x5) (a := a) (c6 := c6)  k
          rw [m_TB_stock_L75s_142, if_pos q1, if_neg q12, if_neg q13, if_pos q14] at j
          exact j
        · refine Ev_iinc (d := 1) (pc := 139) d_TB_stock_139 rfl (by decide) rfl ?_
          have j := c_TB_stock_L75s_142 (E := E) (P := P) (h := h) (x1 := x1) (x2 := x2) (x3 := x3) (x4 := x4) (x5 := x5) (a := a) (c6 := c6)  k
          rw [m_TB_stock_L75s_142, if_pos q1, if_neg q12, if_neg q13, if_neg q14] at j
          exact j
      · refine Ev_aload (pc := 121) d_TB_stock_121 rfl ?_
        refine Ev_getI (pc := 123) d_TB_stock_123 rfl rfl rfl fl_TB_131 ?_
        refine Ev_iload_n (pc := 126) d_TB_stock_126 rfl ?_
        refine Ev_icmp_ne (tgt := 142) (pc := 127) d_TB_stock_127 rfl (fun q15 => ?_) (fun q15 => ?_)
        · have j := c_TB_stock_L75s_142 (E := E) (P := P) (h := h) (x1 := x1) (x2 := x2) (x3 := x3) (x4 := x4) (x5 := x5) (a := a) (c6 := c6)  k
          rw [m_TB_stock_L75s_142, if_pos q1, if_neg q12, if_pos q13, if_neg q15] at j
          exact j
        · refine Ev_aload_n (pc := 130) d_TB_stock_130 rfl ?_
          refine Ev_aload (pc := 131) d_TB_stock_131 rfl ?_
          refine Ev_callV (M' := M_TB_isReady) (as := [vR 1 a]) (st := []) (a := 0) (i := 0) (pc := 133) d_TB_stock_133 rfl rfl rfl rfl rfl rfl rfl v_TB_isReady lk_TB_93 rfl rfl (c_TB_isReady  ?_)
          refine Ev_if_eq (tgt := 142) (pc := 136) d_TB_stock_136 rfl (fun q16 => ?_) (fun q16 => ?_)
          · have j := c_TB_stock_L75s_142 (E := E) (P := P) (h := h) (x1 := x1) (x2 := x2) (x3 := x3) (x4 := x4) (x5 := x5) (a := a) (c6 := c6)  k
            rw [m_TB_stock_L75s_142, if_pos q1, if_neg q12, if_pos q13, if_pos q15, if_pos q16] at j
            exact j
          · refine Ev_iinc (d := 1) (pc := 139) d_TB_stock_139 rfl (by decide) rfl ?_
            have j := c_TB_stock_L75s_142 (E := E) (P := P) (h := h) (x1 := x1) (x2 := x2) (x3 := x3) (x4 := x4) (x5 := x5) (a := a) (c6 := c6)  k
            rw [m_TB_stock_L75s_142, if_pos q1, if_neg q12, if_pos q13, if_pos q15, if_neg q16] at j
            exact j
    · refine Ev_aload (pc := 107) d_TB_stock_107 rfl ?_
      refine Ev_getI (pc := 109) d_TB_stock_109 rfl rfl rfl fl_TB_128 ?_
      refine Ev_iload_n (pc := 112) d_TB_stock_112 rfl ?_
      refine Ev_icmp_ne (tgt := 142) (pc := 113) d_TB_stock_113 rfl (fun q17 => ?_) (fun q17 => ?_)
      · have j := c_TB_stock_L75s_142 (E := E) (P := P) (h := h) (x1 := x1) (x2 := x2) (x3 := x3) (x4 := x4) (x5 := x5) (a := a) (c6 := c6)  k
        rw [m_TB_stock_L75s_142, if_pos q1, if_pos q12, if_neg q17] at j
        exact j
      · refine Ev_iload (pc := 116) d_TB_stock_116 rfl ?_
        refine Ev_if_ne (tgt := 130) (pc := 118) d_TB_stock_118 rfl (fun q18 => ?_) (fun q18 => ?_)
        · refine Ev_aload_n (pc := 130) d_TB_stock_130 rfl ?_
          refine Ev_aload (pc := 131) d_TB_stock_131 rfl ?_
          refine Ev_callV (M' := M_TB_isReady) (as := [vR 1 a]) (st := []) (a := 0) (i := 0) (pc := 133) d_TB_stock_133 rfl rfl rfl rfl rfl rfl rfl v_TB_isReady lk_TB_93 rfl rfl (c_TB_isReady  ?_)
          refine Ev_if_eq (tgt := 142) (pc := 136) d_TB_stock_136 rfl (fun q19 => ?_) (fun q19 => ?_)
          · have j := c_TB_stock_L75s_142 (E := E) (P := P) (h := h) (x1 := x1) (x2 := x2) (x3 := x3) (x4 := x4) (x5 := x5) (a := a) (c6 := c6)  k
            rw [m_TB_stock_L75s_142, if_pos q1, if_pos q12, if_pos q17, if_neg q18, if_pos q19] at j
            exact j
          · refine Ev_iinc (d := 1) (pc := 139) d_TB_stock_139 rfl (by decide) rfl ?_
            have j := c_TB_stock_L75s_142 (E := E) (P := P) (h := h) (x1 := x1) (x2 := x2) (x3 := x3) (x4 := x4) (x5 := x5) (a := a) (c6 := c6)  k
            rw [m_TB_stock_L75s_142, if_pos q1, if_pos q12, if_pos q17, if_neg q18, if_neg q19] at j
            exact j
        · refine Ev_aload (pc := 121) d_TB_stock_121 rfl ?_
          refine Ev_getI (pc := 123) d_TB_stock_123 rfl rfl rfl fl_TB_131 ?_
          refine Ev_iload_n (pc := 126) d_TB_stock_126 rfl ?_
          refine Ev_icmp_ne (tgt := 142) (pc := 127) d_TB_stock_127 rfl (fun q20 => ?_) (fun q20 => ?_)
          · have j := c_TB_stock_L75s_142 (E := E) (P := P) (h := h) (x1 := x1) (x2 := x2) (x3 := x3) (x4 := x4) (x5 := x5) (a := a) (c6 := c6)  k
            rw [m_TB_stock_L75s_142, if_pos q1, if_pos q12, if_pos q17, if_pos q18, if_neg q20] at j
            exact j
          · refine Ev_aload_n (pc := 130) d_TB_stock_130 rfl ?_
            refine Ev_aload (pc := 131) d_TB_stock_131 rfl ?_
            refine Ev_callV (M' := M_TB_isReady) (as := [vR 1 a]) (st := []) (a := 0) (i := 0) (pc := 133) d_TB_stock_133 rfl rfl rfl rfl rfl rfl rfl v_TB_isReady lk_TB_93 rfl rfl (c_TB_isReady  ?_)
            refine Ev_if_eq (tgt := 142) (pc := 136) d_TB_stock_136 rfl (fun q21 => ?_) (fun q21 => ?_)
            · have j := c_TB_stock_L75s_142 (E := E) (P := P) (h := h) (x1 := x1) (x2 := x2) (x3 := x3) (x4 := x4) (x5 := x5) (a := a) (c6 := c6)  k
              rw [m_TB_stock_L75s_142, if_pos q1, if_pos q12, if_pos q17, if_pos q18, if_pos q20, if_pos q21] at j
              exact j
            · refine Ev_iinc (d := 1) (pc := 139) d_TB_stock_139 rfl (by decide) rfl ?_
              have j := c_TB_stock_L75s_142 (E := E) (P := P) (h := h) (x1 := x1) (x2 := x2) (x3 := x3) (x4 := x4) (x5 := x5) (a := a) (c6 := c6)  k
              rw [m_TB_stock_L75s_142, if_pos q1, if_pos q12, if_pos q17, if_pos q18, if_pos q20, if_neg q21] at j
              exact j
def r_TB_stock_L75 (h : ev_H) (x1 : Int32) (x2 : Int32) (x3 : Int32) (x4 : Int32) (x5 : Int32) : Nat → Int32
  | 0 => 0
  | a + 1 => (m_TB_stock_L75s_142 h x1 x2 x3 x4 x5 a (r_TB_stock_L75 h x1 x2 x3 x4 x5 a))
theorem lp_TB_stock_L75 {E : ev_E} {P : Option ev_V ⊕ Nat → ev_H → Prop} {h : ev_H} {x1 : Int32} {x2 : Int32} {x3 : Int32} {x4 : Int32} {x5 : Int32} (n : Nat) (hn : n ≤ 48) (hb : (gI h 0 0 3) = nI n) (hR : rfs h) (n2 : ∀ a, a < n → gR h 0 1 a = vR 1 a) (k : Ev E M_TB_stock 75 [(0, vR 0 0), (1, vI x1), (2, vI x2), (3, vI x3), (4, vI x4), (5, vI x5), (6, vI (r_TB_stock_L75 h x1 x2 x3 x4 x5 n)), (7, vI (nI n))] [] h P) : Ev E M_TB_stock 75 [(0, vR 0 0), (1, vI x1), (2, vI x2), (3, vI x3), (4, vI x4), (5, vI x5), (6, vI 0), (7, vI 0)] [] h P := by
  refine Ev_for n (fun a => [(0, vR 0 0), (1, vI x1), (2, vI x2), (3, vI x3), (4, vI x4), (5, vI x5), (6, vI (r_TB_stock_L75 h x1 x2 x3 x4 x5 a)), (7, vI (nI a))]) (fun a => h) (fun a ha k => ?_) k
  have k2 : Ev E M_TB_stock 75 [(0, vR 0 0), (1, vI x1), (2, vI x2), (3, vI x3), (4, vI x4), (5, vI x5), (6, vI (r_TB_stock_L75 h x1 x2 x3 x4 x5 (a + 1))), (7, vI (nI (a + 1)))] [] h P := k
  rw [nI_succ] at k2
  exact c_TB_stock_L75s (by rw [hb]; exact nI_ge ha (Nat.lt_of_le_of_lt hn (by decide))) hR (n2 a ha) (Nat.lt_of_lt_of_le ha (Nat.le_trans hn (by decide))) k2
def m_TB_stock_10 (x1 : Int32) (x2 : Int32) (x3 : Int32) : Int32 := (if x2 = (-1) then 1 else 0)
def m_TB_stock_22 (x1 : Int32) (x2 : Int32) (x3 : Int32) : Int32 := (if x3 = (-1) then 1 else 0)
def f_TB_stock_22 (h : ev_H) (x1 : Int32) (x2 : Int32) (x3 : Int32) : (Option ev_V ⊕ Nat) × ev_H := (if (f_TB_isBelow x1 4) = 0 then (.inr 0, nx h) else (if (m_TB_stock_10 x1 x2 x3) = 0 then (if (f_TB_isBelow x2 4) = 0 then (.inr 0, nx h) else (if (m_TB_stock_22 x1 x2 x3) = 0 then (if (f_TB_isBelow x3 2) = 0 then (.inr 0, nx h) else (.inl (some (vI (r_TB_stock_L75 h x1 x2 x3 (m_TB_stock_10 x1 x2 x3) (m_TB_stock_22 x1 x2 x3) (gI h 0 0 3).toNatClampNeg))), h)) else (.inl (some (vI (r_TB_stock_L75 h x1 x2 x3 (m_TB_stock_10 x1 x2 x3) (m_TB_stock_22 x1 x2 x3) (gI h 0 0 3).toNatClampNeg))), h))) else (if (m_TB_stock_22 x1 x2 x3) = 0 then (if (f_TB_isBelow x3 2) = 0 then (.inr 0, nx h) else (.inl (some (vI (r_TB_stock_L75 h x1 x2 x3 (m_TB_stock_10 x1 x2 x3) (m_TB_stock_22 x1 x2 x3) (gI h 0 0 3).toNatClampNeg))), h)) else (.inl (some (vI (r_TB_stock_L75 h x1 x2 x3 (m_TB_stock_10 x1 x2 x3) (m_TB_stock_22 x1 x2 x3) (gI h 0 0 3).toNatClampNeg))), h))))
theorem c_TB_stock_22 {E : ev_E} {P : Option ev_V ⊕ Nat → ev_H → Prop} {h : ev_H} {x1 : Int32} {x2 : Int32} {x3 : Int32} (hZ : cZ h < ZM) (n1 : (gI h 0 0 3).toNatClampNeg ≤ 48) (n2 : (gI h 0 0 3) = nI (gI h 0 0 3).toNatClampNeg) (hR : rfs h) (n4 : ∀ a, a < (gI h 0 0 3).toNatClampNeg → gR h 0 1 a = vR 1 a) (k : P (f_TB_stock_22 h x1 x2 x3).1 (f_TB_stock_22 h x1 x2 x3).2) : Ev E M_TB_stock 22 [(0, vR 0 0), (1, vI x1), (2, vI x2), (3, vI x3), (4, vI (m_TB_stock_10 x1 x2 x3))] [vI (m_TB_stock_22 x1 x2 x3)] h P := by
  refine Ev_istore (pc := 22) d_TB_stock_22 rfl ?_
  refine Ev_iload_n (pc := 24) d_TB_stock_24 rfl ?_
  refine Ev_iconst (v := 4) (pc := 25) d_TB_stock_25 (by decide) ?_
  refine Ev_callS (M' := M_TB_isBelow) (as := [vI x1, vI 4]) (st := []) (pc := 26) d_TB_stock_26 rfl rfl rfl s_TB_isBelow lk_TB_48 rfl rfl (c_TB_isBelow  ?_)
  refine Ev_if_eq (tgt := 58) (pc := 29) d_TB_stock_29 rfl (fun q3 => ?_) (fun q3 => ?_)
  · refine Ev_throwW (pc := 58) d_TB_stock_58 d_TB_stock_61 d_TB_stock_62 d_TB_stock_65 d_TB_stock_68 rfl rfl th_TB_31_296_35 rfl hZ ?_
    rw [f_TB_stock_22, if_pos q3] at k
    exact k
  · refine Ev_iload (pc := 32) d_TB_stock_32 rfl ?_
    refine Ev_if_ne (tgt := 45) (pc := 34) d_TB_stock_34 rfl (fun q4 => ?_) (fun q4 => ?_)
    · refine Ev_iload (pc := 45) d_TB_stock_45 rfl ?_
      refine Ev_if_ne (tgt := 69) (pc := 47) d_TB_stock_47 rfl (fun q5 => ?_) (fun q5 => ?_)
      · refine Ev_iconst (v := 0) (pc := 69) d_TB_stock_69 (by decide) ?_
        refine Ev_istore (pc := 70) d_TB_stock_70 rfl ?_
        refine Ev_iconst (v := 0) (pc := 72) d_TB_stock_72 (by decide) ?_
        refine Ev_istore (pc := 73) d_TB_stock_73 rfl ?_
        refine lp_TB_stock_L75 ((gI h 0 0 3).toNatClampNeg) n1 n2 hR n4 ?_
        refine Ev_iload (pc := 75) d_TB_stock_75 rfl ?_
        refine Ev_aload_n (pc := 77) d_TB_stock_77 rfl ?_
        refine Ev_getI (pc := 78) d_TB_stock_78 rfl rfl rfl fl_TB_42 ?_
        refine Ev_icmp_ge (tgt := 148) (pc := 81) d_TB_stock_81 rfl (fun _ => ?_) (fun q => absurd (lpx n2) q)
        refine Ev_iload (pc := 148) d_TB_stock_148 rfl ?_
        refine Ev_ireturn (pc := 150) d_TB_stock_150 rfl rfl ?_
        rw [f_TB_stock_22, if_neg q3, if_neg q4, if_neg q5] at k
        exact k
      · refine Ev_iload_n (pc := 50) d_TB_stock_50 rfl ?_
        refine Ev_iconst (v := 2) (pc := 51) d_TB_stock_51 (by decide) ?_
        refine Ev_callS (M' := M_TB_isBelow) (as := [vI x3, vI 2]) (st := []) (pc := 52) d_TB_stock_52 rfl rfl rfl s_TB_isBelow lk_TB_48 rfl rfl (c_TB_isBelow  ?_)
        refine Ev_if_ne (tgt := 69) (pc := 55) d_TB_stock_55 rfl (fun q6 => ?_) (fun q6 => ?_)
        · refine Ev_iconst (v := 0) (pc := 69) d_TB_stock_69 (by decide) ?_
          refine Ev_istore (pc := 70) d_TB_stock_70 rfl ?_
          refine Ev_iconst (v := 0) (pc := 72) d_TB_stock_72 (by decide) ?_
          refine Ev_istore (pc := 73) d_TB_stock_73 rfl ?_
          refine lp_TB_stock_L75 ((gI h 0 0 3).toNatClampNeg) n1 n2 hR n4 ?_
          refine Ev_iload (pc := 75) d_TB_stock_75 rfl ?_
          refine Ev_aload_n (pc := 77) d_TB_stock_77 rfl ?_
          refine Ev_getI (pc := 78) d_TB_stock_78 rfl rfl rfl fl_TB_42 ?_
          refine Ev_icmp_ge (tgt := 148) (pc := 81) d_TB_stock_81 rfl (fun _ => ?_) (fun q => absurd (lpx n2) q)
          refine Ev_iload (pc := 148) d_TB_stock_148 rfl ?_
          refine Ev_ireturn (pc := 150) d_TB_stock_150 rfl rfl ?_
          rw [f_TB_stock_22, if_neg q3, if_neg q4, if_pos q5, if_neg q6] at k
          exact k
        · refine Ev_throwW (pc := 58) d_TB_stock_58 d_TB_stock_61 d_TB_stock_62 d_TB_stock_65 d_TB_stock_68 rfl rfl th_TB_31_296_35 rfl hZ ?_
          rw [f_TB_stock_22, if_neg q3, if_neg q4, if_pos q5, if_pos q6] at k
          exact k
    · refine Ev_iload_n (pc := 37) d_TB_stock_37 rfl ?_
      refine Ev_iconst (v := 4) (pc := 38) d_TB_stock_38 (by decide) ?_
      refine Ev_callS (M' := M_TB_isBelow) (as := [vI x2, vI 4]) (st := []) (pc := 39) d_TB_stock_39 rfl rfl rfl s_TB_isBelow lk_TB_48 rfl rfl (c_TB_isBelow  ?_)
      refine Ev_if_eq (tgt := 58) (pc := 42) d_TB_stock_42 rfl (fun q7 => ?_) (fun q7 => ?_)
      · refine Ev_throwW (pc := 58) d_TB_stock_58 d_TB_stock_61 d_TB_stock_62 d_TB_stock_65 d_TB_stock_68 rfl rfl th_TB_31_296_35 rfl hZ ?_
        rw [f_TB_stock_22, if_neg q3, if_pos q4, if_pos q7] at k
        exact k
      · refine Ev_iload (pc := 45) d_TB_stock_45 rfl ?_
        refine Ev_if_ne (tgt := 69) (pc := 47) d_TB_stock_47 rfl (fun q8 => ?_) (fun q8 => ?_)
        · refine Ev_iconst (v := 0) (pc := 69) d_TB_stock_69 (by decide) ?_
          refine Ev_istore (pc := 70) d_TB_stock_70 rfl ?_
          refine Ev_iconst (v := 0) (pc := 72) d_TB_stock_72 (by decide) ?_
          refine Ev_istore (pc := 73) d_TB_stock_73 rfl ?_
          refine lp_TB_stock_L75 ((gI h 0 0 3).toNatClampNeg) n1 n2 hR n4 ?_
          refine Ev_iload (pc := 75) d_TB_stock_75 rfl ?_
          refine Ev_aload_n (pc := 77) d_TB_stock_77 rfl ?_
          refine Ev_getI (pc := 78) d_TB_stock_78 rfl rfl rfl fl_TB_42 ?_
          refine Ev_icmp_ge (tgt := 148) (pc := 81) d_TB_stock_81 rfl (fun _ => ?_) (fun q => absurd (lpx n2) q)
          refine Ev_iload (pc := 148) d_TB_stock_148 rfl ?_
          refine Ev_ireturn (pc := 150) d_TB_stock_150 rfl rfl ?_
          rw [f_TB_stock_22, if_neg q3, if_pos q4, if_neg q7, if_neg q8] at k
          exact k
        · refine Ev_iload_n (pc := 50) d_TB_stock_50 rfl ?_
          refine Ev_iconst (v := 2) (pc := 51) d_TB_stock_51 (by decide) ?_
          refine Ev_callS (M' := M_TB_isBelow) (as := [vI x3, vI 2]) (st := []) (pc := 52) d_TB_stock_52 rfl rfl rfl s_TB_isBelow lk_TB_48 rfl rfl (c_TB_isBelow  ?_)
          refine Ev_if_ne (tgt := 69) (pc := 55) d_TB_stock_55 rfl (fun q9 => ?_) (fun q9 => ?_)
          · refine Ev_iconst (v := 0) (pc := 69) d_TB_stock_69 (by decide) ?_
            refine Ev_istore (pc := 70) d_TB_stock_70 rfl ?_
            refine Ev_iconst (v := 0) (pc := 72) d_TB_stock_72 (by decide) ?_
            refine Ev_istore (pc := 73) d_TB_stock_73 rfl ?_
            refine lp_TB_stock_L75 ((gI h 0 0 3).toNatClampNeg) n1 n2 hR n4 ?_
            refine Ev_iload (pc := 75) d_TB_stock_75 rfl ?_
            refine Ev_aload_n (pc := 77) d_TB_stock_77 rfl ?_
            refine Ev_getI (pc := 78) d_TB_stock_78 rfl rfl rfl fl_TB_42 ?_
            refine Ev_icmp_ge (tgt := 148) (pc := 81) d_TB_stock_81 rfl (fun _ => ?_) (fun q => absurd (lpx n2) q)
            refine Ev_iload (pc := 148) d_TB_stock_148 rfl ?_
            refine Ev_ireturn (pc := 150) d_TB_stock_150 rfl rfl ?_
            rw [f_TB_stock_22, if_neg q3, if_pos q4, if_neg q7, if_pos q8, if_neg q9] at k
            exact k
          · refine Ev_throwW (pc := 58) d_TB_stock_58 d_TB_stock_61 d_TB_stock_62 d_TB_stock_65 d_TB_stock_68 rfl rfl th_TB_31_296_35 rfl hZ ?_
            rw [f_TB_stock_22, if_neg q3, if_pos q4, if_neg q7, if_pos q8, if_pos q9] at k
            exact k
def f_TB_stock_10 (h : ev_H) (x1 : Int32) (x2 : Int32) (x3 : Int32) : (Option ev_V ⊕ Nat) × ev_H := f_TB_stock_22 h x1 x2 x3
theorem c_TB_stock_10 {E : ev_E} {P : Option ev_V ⊕ Nat → ev_H → Prop} {h : ev_H} {x1 : Int32} {x2 : Int32} {x3 : Int32} (hZ : cZ h < ZM) (n1 : (gI h 0 0 3).toNatClampNeg ≤ 48) (n2 : (gI h 0 0 3) = nI (gI h 0 0 3).toNatClampNeg) (hR : rfs h) (n4 : ∀ a, a < (gI h 0 0 3).toNatClampNeg → gR h 0 1 a = vR 1 a) (k : P (f_TB_stock_10 h x1 x2 x3).1 (f_TB_stock_10 h x1 x2 x3).2) : Ev E M_TB_stock 10 [(0, vR 0 0), (1, vI x1), (2, vI x2), (3, vI x3)] [vI (m_TB_stock_10 x1 x2 x3)] h P := by
  refine Ev_istore (pc := 10) d_TB_stock_10 rfl ?_
  refine Ev_iload_n (pc := 12) d_TB_stock_12 rfl ?_
  refine Ev_iconst (v := -1) (pc := 13) d_TB_stock_13 (by decide) ?_
  refine Ev_icmp_ne (tgt := 21) (pc := 14) d_TB_stock_14 rfl (fun q2 => ?_) (fun q2 => ?_)
  · refine Ev_iconst (v := 0) (pc := 21) d_TB_stock_21 (by decide) ?_
    rw [f_TB_stock_10] at k
    have j := c_TB_stock_22 (E := E) (P := P) (h := h) (x1 := x1) (x2 := x2) (x3 := x3) hZ n1 n2 hR n4 k
    rw [m_TB_stock_22, if_neg q2] at j
    exact j
  · refine Ev_iconst (v := 1) (pc := 17) d_TB_stock_17 (by decide) ?_
    refine Ev_goto (tgt := 22) (pc := 18) d_TB_stock_18 rfl ?_
    rw [f_TB_stock_10] at k
    have j := c_TB_stock_22 (E := E) (P := P) (h := h) (x1 := x1) (x2 := x2) (x3 := x3) hZ n1 n2 hR n4 k
    rw [m_TB_stock_22, if_pos q2] at j
    exact j
def f_TB_stock (h : ev_H) (x1 : Int32) (x2 : Int32) (x3 : Int32) : (Option ev_V ⊕ Nat) × ev_H := f_TB_stock_10 h x1 x2 x3
theorem c_TB_stock {E : ev_E} {P : Option ev_V ⊕ Nat → ev_H → Prop} {h : ev_H} {x1 : Int32} {x2 : Int32} {x3 : Int32} (hZ : cZ h < ZM) (n1 : (gI h 0 0 3).toNatClampNeg ≤ 48) (n2 : (gI h 0 0 3) = nI (gI h 0 0 3).toNatClampNeg) (hR : rfs h) (n4 : ∀ a, a < (gI h 0 0 3).toNatClampNeg → gR h 0 1 a = vR 1 a) (k : P (f_TB_stock h x1 x2 x3).1 (f_TB_stock h x1 x2 x3).2) : Ev E M_TB_stock 0 [(0, vR 0 0), (1, vI x1), (2, vI x2), (3, vI x3)] [] h P := by
  refine Ev_iload_n (pc := 0) d_TB_stock_0 rfl ?_
  refine Ev_iconst (v := -1) (pc := 1) d_TB_stock_1 (by decide) ?_
  refine Ev_icmp_ne (tgt := 9) (pc := 2) d_TB_stock_2 rfl (fun q1 => ?_) (fun q1 => ?_)
  · refine Ev_iconst (v := 0) (pc := 9) d_TB_stock_9 (by decide) ?_
    rw [f_TB_stock] at k
    have j := c_TB_stock_10 (E := E) (P := P) (h := h) (x1 := x1) (x2 := x2) (x3 := x3) hZ n1 n2 hR n4 k
    rw [m_TB_stock_10, if_neg q1] at j
    exact j
  · refine Ev_iconst (v := 1) (pc := 5) d_TB_stock_5 (by decide) ?_
    refine Ev_goto (tgt := 10) (pc := 6) d_TB_stock_6 rfl ?_
    rw [f_TB_stock] at k
    have j := c_TB_stock_10 (E := E) (P := P) (h := h) (x1 := x1) (x2 := x2) (x3 := x3) hZ n1 n2 hR n4 k
    rw [m_TB_stock_10, if_pos q1] at j
    exact j
def m_TB_offer_L36s_96 (h : ev_H) (x1 : Int32) (x2 : Int32) (x3 : Int32) (p : Nat) (a : Nat) : ev_H := (if (gI h 1 a 0) = x2 then (if (f_TB_isReady h a) = 0 then h else (if (f_RU_reason h p a) = 0 then (f_RK_insert h (nI a) (gI h 1 a 4)) else h)) else h)
theorem c_TB_offer_L36s_96 {E : ev_E} {P : Option ev_V ⊕ Nat → ev_H → Prop} {h : ev_H} {x1 : Int32} {x2 : Int32} {x3 : Int32} {p : Nat} {a : Nat} (k : Ev E M_TB_offer 36 [(0, vR 0 0), (1, vI x1), (2, vI x2), (3, vI x3), (4, vR 2 p), (5, vI ((nI a) + 1))] [] (m_TB_offer_L36s_96 h x1 x2 x3 p a) P) : Ev E M_TB_offer 96 [(0, vR 0 0), (1, vI x1), (2, vI x2), (3, vI x3), (4, vR 2 p), (5, vI (nI a)), (6, vR 1 a)] [] (m_TB_offer_L36s_96 h x1 x2 x3 p a) P := by
  refine Ev_iinc (d := 1) (pc := 96) d_TB_offer_96 rfl (by decide) rfl ?_
  refine Ev_goto (tgt := 36) (pc := 99) d_TB_offer_99 rfl ?_
  refine Ev_sub (lsub ?_) k
  exact (And.intro rfl (And.intro rfl (And.intro rfl (And.intro rfl (And.intro rfl (And.intro rfl trivial))))))
theorem c_TB_offer_L36s {E : ev_E} {P : Option ev_V ⊕ Nat → ev_H → Prop} {h : ev_H} {x1 : Int32} {x2 : Int32} {x3 : Int32} {p : Nat} {a : Nat} (q0 : ¬ (gI h 0 0 3) ≤ (nI a)) (hR : rfs h) (n2 : gR h 0 1 a = vR 1 a) (n3 : a < 48) (n4 : (gI h 0 3 2) = nI (gI h 0 3 2).toNatClampNeg) (n5 : (gI h 0 3 2).toNatClampNeg < 48) (k : Ev E M_TB_offer 36 [(0, vR 0 0), (1, vI x1), (2, vI x2), (3, vI x3), (4, vR 2 p), (5, vI ((nI a) + 1))] [] (m_TB_offer_L36s_96 h x1 x2 x3 p a) P) : Ev E M_TB_offer 36 [(0, vR 0 0), (1, vI x1), (2, vI x2), (3, vI x3), (4, vR 2 p), (5, vI (nI a))] [] h P := by
  refine Ev_iload (pc := 36) d_TB_offer_36 rfl ?_
  refine Ev_aload_n (pc := 38) d_TB_offer_38 rfl ?_
  refine Ev_getI (pc := 39) d_TB_offer_39 rfl rfl rfl fl_TB_42 ?_
  refine Ev_icmp_ge (tgt := 102) (pc := 42) d_TB_offer_42 rfl (fun q => absurd q q0) (fun _ => ?_)
  refine Ev_aload_n (pc := 45) d_TB_offer_45 rfl ?_
  refine Ev_getR (pc := 46) d_TB_offer_46 rfl rfl rfl fl_TB_11 (rf_TB_0 hR) ?_
  refine Ev_iload (pc := 49) d_TB_offer_49 rfl ?_
  refine Ev_aaldJ (pc := 51) d_TB_offer_51 rfl rfl (Or.inl rfl) (nIp (Nat.lt_of_lt_of_le n3 (by decide))) (nIc (Nat.lt_of_lt_of_le n3 (by decide))) n3 n2 ?_
  refine Ev_astore (pc := 52) d_TB_offer_52 rfl ?_
  refine Ev_aload (pc := 54) d_TB_offer_54 rfl ?_
  refine Ev_getI (pc := 56) d_TB_offer_56 rfl rfl rfl fl_TB_99 ?_
  refine Ev_iload_n (pc := 59) d_TB_offer_59 rfl ?_
  refine Ev_icmp_ne (tgt := 96) (pc := 60) d_TB_offer_60 rfl (fun q1 => ?_) (fun q1 => ?_)
  · have j := c_TB_offer_L36s_96 (E := E) (P := P) (h := h) (x1 := x1) (x2 := x2) (x3 := x3) (p := p) (a := a)  k
    rw [m_TB_offer_L36s_96, if_neg q1] at j
    exact j
  · refine Ev_aload_n (pc := 63) d_TB_offer_63 rfl ?_
    refine Ev_aload (pc := 64) d_TB_offer_64 rfl ?_
    refine Ev_callV (M' := M_TB_isReady) (as := [vR 1 a]) (st := []) (a := 0) (i := 0) (pc := 66) d_TB_offer_66 rfl rfl rfl rfl rfl rfl rfl v_TB_isReady lk_TB_93 rfl rfl (c_TB_isReady  ?_)
    refine Ev_if_eq (tgt := 96) (pc := 69) d_TB_offer_69 rfl (fun q4 => ?_) (fun q4 => ?_)
    · have j := c_TB_offer_L36s_96 (E := E) (P := P) (h := h) (x1 := x1) (x2 := x2) (x3 := x3) (p := p) (a := a)  k
      rw [m_TB_offer_L36s_96, if_pos q1, if_pos q4] at j
      exact j
    · refine Ev_aload (pc := 72) d_TB_offer_72 rfl ?_
      refine Ev_aload (pc := 74) d_TB_offer_74 rfl ?_
      refine Ev_callS (M' := M_RU_reason) (as := [vR 2 p, vR 1 a]) (st := []) (pc := 76) d_TB_offer_76 rfl rfl rfl s_RU_reason lk_TB_233 rfl rfl (c_RU_reason  ?_)
      refine Ev_if_ne (tgt := 96) (pc := 79) d_TB_offer_79 rfl (fun q5 => ?_) (fun q5 => ?_)
      · have j := c_TB_offer_L36s_96 (E := E) (P := P) (h := h) (x1 := x1) (x2 := x2) (x3 := x3) (p := p) (a := a)  k
        rw [m_TB_offer_L36s_96, if_pos q1, if_neg q4, if_neg q5] at j
        exact j
      · refine Ev_aload_n (pc := 82) d_TB_offer_82 rfl ?_
        refine Ev_getR (pc := 83) d_TB_offer_83 rfl rfl rfl fl_TB_26 (rf_TB_2 hR) ?_
        refine Ev_iload (pc := 86) d_TB_offer_86 rfl ?_
        refine Ev_aload (pc := 88) d_TB_offer_88 rfl ?_
        refine Ev_getI (pc := 90) d_TB_offer_90 rfl rfl rfl fl_TB_266 ?_
        refine Ev_callV (M' := M_RK_insert) (as := [vI (nI a), vI (gI h 1 a 4)]) (st := []) (a := 0) (i := 3) (pc := 93) d_TB_offer_93 rfl rfl rfl rfl rfl rfl rfl v_RK_insert lk_TB_290 rfl rfl (c_RK_insert hR n4 n5 ?_)
        have j := c_TB_offer_L36s_96 (E := E) (P := P) (h := h) (x1 := x1) (x2 := x2) (x3 := x3) (p := p) (a := a)  k
        rw [m_TB_offer_L36s_96, if_pos q1, if_neg q4, if_pos q5] at j
        exact j
def r_TB_offer_L36 (h : ev_H) (x1 : Int32) (x2 : Int32) (x3 : Int32) (p : Nat) : Nat → ev_H
  | 0 => h
  | a + 1 => (m_TB_offer_L36s_96 (r_TB_offer_L36 h x1 x2 x3 p a) x1 x2 x3 p a)
theorem lp_TB_offer_L36 {E : ev_E} {P : Option ev_V ⊕ Nat → ev_H → Prop} {h : ev_H} {x1 : Int32} {x2 : Int32} {x3 : Int32} {p : Nat} (n : Nat) (hn : n ≤ 48) (hb : ∀ a, a ≤ n → (gI (r_TB_offer_L36 h x1 x2 x3 p a) 0 0 3) = nI n) (hR : ∀ a, a < n → rfs (r_TB_offer_L36 h x1 x2 x3 p a)) (n2 : ∀ a, a < n → gR (r_TB_offer_L36 h x1 x2 x3 p a) 0 1 a = vR 1 a) (n4 : ∀ a, a < n → (gI (r_TB_offer_L36 h x1 x2 x3 p a) 0 3 2) = nI (gI (r_TB_offer_L36 h x1 x2 x3 p a) 0 3 2).toNatClampNeg) (n5 : ∀ a, a < n → (gI (r_TB_offer_L36 h x1 x2 x3 p a) 0 3 2).toNatClampNeg < 48) (k : Ev E M_TB_offer 36 [(0, vR 0 0), (1, vI x1), (2, vI x2), (3, vI x3), (4, vR 2 p), (5, vI (nI n))] [] (r_TB_offer_L36 h x1 x2 x3 p n) P) : Ev E M_TB_offer 36 [(0, vR 0 0), (1, vI x1), (2, vI x2), (3, vI x3), (4, vR 2 p), (5, vI 0)] [] h P := by
  refine Ev_for n (fun a => [(0, vR 0 0), (1, vI x1), (2, vI x2), (3, vI x3), (4, vR 2 p), (5, vI (nI a))]) (fun a => (r_TB_offer_L36 h x1 x2 x3 p a)) (fun a ha k => ?_) k
  have k2 : Ev E M_TB_offer 36 [(0, vR 0 0), (1, vI x1), (2, vI x2), (3, vI x3), (4, vR 2 p), (5, vI (nI (a + 1)))] [] (r_TB_offer_L36 h x1 x2 x3 p (a + 1)) P := k
  rw [nI_succ] at k2
  exact c_TB_offer_L36s (by rw [(hb a (Nat.le_of_lt ha))]; exact nI_ge ha (Nat.lt_of_le_of_lt hn (by decide))) (hR a ha) (n2 a ha) (Nat.lt_of_lt_of_le ha (Nat.le_trans hn (by decide))) (n4 a ha) (n5 a ha) k2
def f_TB_offer (h : ev_H) (x1 : Int32) (x2 : Int32) (x3 : Int32) : (Option ev_V ⊕ Nat) × ev_H := (if (f_TB_isBelow x1 (gI h 0 0 4)) = 0 then (.inr 2, nx h) else (if (f_TB_isBelow x2 4) = 0 then (.inr 0, nx h) else (.inl (some (vI (f_RK_at (r_TB_offer_L36 (f_RK_empty h) x1 x2 x3 x1.toNatClampNeg (gI (f_RK_empty h) 0 0 3).toNatClampNeg) x3))), (r_TB_offer_L36 (f_RK_empty h) x1 x2 x3 x1.toNatClampNeg (gI (f_RK_empty h) 0 0 3).toNatClampNeg))))
theorem c_TB_offer {E : ev_E} {P : Option ev_V ⊕ Nat → ev_H → Prop} {h : ev_H} {x1 : Int32} {x2 : Int32} {x3 : Int32} (hP : pok h) (hR : rfs h) (hZ : cZ h < ZM) (n3 : (gI h 0 0 3).toNatClampNeg ≤ 48) (n4 : ∀ a, a ≤ (gI h 0 0 3).toNatClampNeg → (gI (r_TB_offer_L36 (f_RK_empty h) x1 x2 x3 x1.toNatClampNeg a) 0 0 3) = nI (gI h 0 0 3).toNatClampNeg) (n5 : ∀ a, a < (gI h 0 0 3).toNatClampNeg → rfs (r_TB_offer_L36 (f_RK_empty h) x1 x2 x3 x1.toNatClampNeg a)) (n6 : ∀ a, a < (gI h 0 0 3).toNatClampNeg → gR (r_TB_offer_L36 (f_RK_empty h) x1 x2 x3 x1.toNatClampNeg a) 0 1 a = vR 1 a) (n7 : ∀ a, a < (gI h 0 0 3).toNatClampNeg → (gI (r_TB_offer_L36 (f_RK_empty h) x1 x2 x3 x1.toNatClampNeg a) 0 3 2) = nI (gI (r_TB_offer_L36 (f_RK_empty h) x1 x2 x3 x1.toNatClampNeg a) 0 3 2).toNatClampNeg) (n8 : ∀ a, a < (gI h 0 0 3).toNatClampNeg → (gI (r_TB_offer_L36 (f_RK_empty h) x1 x2 x3 x1.toNatClampNeg a) 0 3 2).toNatClampNeg < 48) (n9 : rfs (r_TB_offer_L36 (f_RK_empty h) x1 x2 x3 x1.toNatClampNeg (gI h 0 0 3).toNatClampNeg)) (n10 : gI (r_TB_offer_L36 (f_RK_empty h) x1 x2 x3 x1.toNatClampNeg (gI h 0 0 3).toNatClampNeg) 0 3 2 ≤ 48) (k : P (f_TB_offer h x1 x2 x3).1 (f_TB_offer h x1 x2 x3).2) : Ev E M_TB_offer 0 [(0, vR 0 0), (1, vI x1), (2, vI x2), (3, vI x3)] [] h P := by
  refine Ev_aload_n (pc := 0) d_TB_offer_0 rfl ?_
  refine Ev_iload_n (pc := 1) d_TB_offer_1 rfl ?_
  by_cases q1 : (f_TB_isBelow x1 (gI h 0 0 4)) = 0
  · refine Ev_callV (M' := M_TB_patientAt) (as := [vI x1]) (st := []) (a := 0) (i := 0) (pc := 2) d_TB_offer_2 rfl rfl rfl rfl rfl rfl rfl v_TB_patientAt lk_TB_146 rfl rfl (c_TB_patientAt hR hP hZ ?_)
    rw [f_TB_patientAt, if_pos q1]
    refine Or.inl ⟨rfl, ?_⟩
    rw [f_TB_offer, if_pos q1] at k
    exact k
  · refine Ev_callV (M' := M_TB_patientAt) (as := [vI x1]) (st := []) (a := 0) (i := 0) (pc := 2) d_TB_offer_2 rfl rfl rfl rfl rfl rfl rfl v_TB_patientAt lk_TB_146 rfl rfl (c_TB_patientAt hR hP hZ ?_)
    rw [f_TB_patientAt, if_neg q1]
    refine Ev_astore (pc := 5) d_TB_offer_5 rfl ?_
    refine Ev_iload_n (pc := 7) d_TB_offer_7 rfl ?_
    refine Ev_iconst (v := 4) (pc := 8) d_TB_offer_8 (by decide) ?_
    refine Ev_callS (M' := M_TB_isBelow) (as := [vI x2, vI 4]) (st := []) (pc := 9) d_TB_offer_9 rfl rfl rfl s_TB_isBelow lk_TB_48 rfl rfl (c_TB_isBelow  ?_)
    refine Ev_if_ne (tgt := 26) (pc := 12) d_TB_offer_12 rfl (fun q2 => ?_) (fun q2 => ?_)
    · refine Ev_aload_n (pc := 26) d_TB_offer_26 rfl ?_
      refine Ev_getR (pc := 27) d_TB_offer_27 rfl rfl rfl fl_TB_26 (rf_TB_2 hR) ?_
      refine Ev_callV (M' := M_RK_empty) (as := []) (st := []) (a := 0) (i := 3) (pc := 30) d_TB_offer_30 rfl rfl rfl rfl rfl rfl rfl v_RK_empty lk_TB_287 rfl rfl (c_RK_empty  ?_)
      refine Ev_iconst (v := 0) (pc := 33) d_TB_offer_33 (by decide) ?_
      refine Ev_istore (pc := 34) d_TB_offer_34 rfl ?_
      refine lp_TB_offer_L36 ((gI (f_RK_empty h) 0 0 3).toNatClampNeg) n3 n4 n5 n6 n7 n8 ?_
      refine Ev_iload (pc := 36) d_TB_offer_36 rfl ?_
      refine Ev_aload_n (pc := 38) d_TB_offer_38 rfl ?_
      refine Ev_getI (pc := 39) d_TB_offer_39 rfl rfl rfl fl_TB_42 ?_
      refine Ev_icmp_ge (tgt := 102) (pc := 42) d_TB_offer_42 rfl (fun _ => ?_) (fun q => absurd (lpx (n4 _ (Nat.le_refl _))) q)
      refine Ev_aload_n (pc := 102) d_TB_offer_102 rfl ?_
      refine Ev_getR (pc := 103) d_TB_offer_103 rfl rfl rfl fl_TB_26 (rf_TB_2 n9) ?_
      refine Ev_iload_n (pc := 106) d_TB_offer_106 rfl ?_
      refine Ev_callV (M' := M_RK_at) (as := [vI x3]) (st := []) (a := 0) (i := 3) (pc := 107) d_TB_offer_107 rfl rfl rfl rfl rfl rfl rfl v_RK_at lk_TB_293 rfl rfl (c_RK_at n9 n10 ?_)
      refine Ev_ireturn (pc := 110) d_TB_offer_110 rfl rfl ?_
      rw [f_TB_offer, if_neg q1, if_neg q2] at k
      exact k
    · refine Ev_throwW (pc := 15) d_TB_offer_15 d_TB_offer_18 d_TB_offer_19 d_TB_offer_22 d_TB_offer_25 rfl rfl th_TB_31_285_35 rfl hZ ?_
      rw [f_TB_offer, if_neg q1, if_pos q2] at k
      exact k
def m_TB_expiring_L30s_93 (h : ev_H) (x1 : Int32) (x2 : Int32) (a : Nat) : ev_H := (if (f_UN_isInHouse h a) = 0 then h else (if (f_UN_isExpired h a (gI h 0 0 5)) = 0 then (if (f_UN_isExpired h a ((gI h 0 0 5) + x1)) = 0 then h else (f_RK_insert h (nI a) (gI h 1 a 4))) else h))
theorem c_TB_expiring_L30s_93 {E : ev_E} {P : Option ev_V ⊕ Nat → ev_H → Prop} {h : ev_H} {x1 : Int32} {x2 : Int32} {a : Nat} (k : Ev E M_TB_expiring 30 [(0, vR 0 0), (1, vI x1), (2, vI x2), (3, vI ((nI a) + 1))] [] (m_TB_expiring_L30s_93 h x1 x2 a) P) : Ev E M_TB_expiring 93 [(0, vR 0 0), (1, vI x1), (2, vI x2), (3, vI (nI a)), (4, vR 1 a)] [] (m_TB_expiring_L30s_93 h x1 x2 a) P := by
  refine Ev_iinc (d := 1) (pc := 93) d_TB_expiring_93 rfl (by decide) rfl ?_
  refine Ev_goto (tgt := 30) (pc := 96) d_TB_expiring_96 rfl ?_
  refine Ev_sub (lsub ?_) k
  exact (And.intro rfl (And.intro rfl (And.intro rfl (And.intro rfl trivial))))
theorem c_TB_expiring_L30s {E : ev_E} {P : Option ev_V ⊕ Nat → ev_H → Prop} {h : ev_H} {x1 : Int32} {x2 : Int32} {a : Nat} (q0 : ¬ (gI h 0 0 3) ≤ (nI a)) (hR : rfs h) (n2 : gR h 0 1 a = vR 1 a) (n3 : a < 48) (n4 : (gI h 0 3 2) = nI (gI h 0 3 2).toNatClampNeg) (n5 : (gI h 0 3 2).toNatClampNeg < 48) (k : Ev E M_TB_expiring 30 [(0, vR 0 0), (1, vI x1), (2, vI x2), (3, vI ((nI a) + 1))] [] (m_TB_expiring_L30s_93 h x1 x2 a) P) : Ev E M_TB_expiring 30 [(0, vR 0 0), (1, vI x1), (2, vI x2), (3, vI (nI a))] [] h P := by
  refine Ev_iload_n (pc := 30) d_TB_expiring_30 rfl ?_
  refine Ev_aload_n (pc := 31) d_TB_expiring_31 rfl ?_
  refine Ev_getI (pc := 32) d_TB_expiring_32 rfl rfl rfl fl_TB_42 ?_
  refine Ev_icmp_ge (tgt := 99) (pc := 35) d_TB_expiring_35 rfl (fun q => absurd q q0) (fun _ => ?_)
  refine Ev_aload_n (pc := 38) d_TB_expiring_38 rfl ?_
  refine Ev_getR (pc := 39) d_TB_expiring_39 rfl rfl rfl fl_TB_11 (rf_TB_0 hR) ?_
  refine Ev_iload_n (pc := 42) d_TB_expiring_42 rfl ?_
  refine Ev_aaldJ (pc := 43) d_TB_expiring_43 rfl rfl (Or.inl rfl) (nIp (Nat.lt_of_lt_of_le n3 (by decide))) (nIc (Nat.lt_of_lt_of_le n3 (by decide))) n3 n2 ?_
  refine Ev_astore (pc := 44) d_TB_expiring_44 rfl ?_
  refine Ev_aload (pc := 46) d_TB_expiring_46 rfl ?_
  refine Ev_callV (M' := M_UN_isInHouse) (as := []) (st := []) (a := 1) (i := a) (pc := 48) d_TB_expiring_48 rfl rfl rfl rfl rfl rfl rfl v_UN_isInHouse lk_TB_182 rfl rfl (c_UN_isInHouse  ?_)
  refine Ev_if_eq (tgt := 93) (pc := 51) d_TB_expiring_51 rfl (fun q1 => ?_) (fun q1 => ?_)
  · have j := c_TB_expiring_L30s_93 (E := E) (P := P) (h := h) (x1 := x1) (x2 := x2) (a := a)  k
    rw [m_TB_expiring_L30s_93, if_pos q1] at j
    exact j
  · refine Ev_aload (pc := 54) d_TB_expiring_54 rfl ?_
    refine Ev_aload_n (pc := 56) d_TB_expiring_56 rfl ?_
    refine Ev_getI (pc := 57) d_TB_expiring_57 rfl rfl rfl fl_TB_38 ?_
    refine Ev_callV (M' := M_UN_isExpired) (as := [vI (gI h 0 0 5)]) (st := []) (a := 1) (i := a) (pc := 60) d_TB_expiring_60 rfl rfl rfl rfl rfl rfl rfl v_UN_isExpired lk_TB_300 rfl rfl (c_UN_isExpired  ?_)
    refine Ev_if_ne (tgt := 93) (pc := 63) d_TB_expiring_63 rfl (fun q4 => ?_) (fun q4 => ?_)
    · have j := c_TB_expiring_L30s_93 (E := E) (P := P) (h := h) (x1 := x1) (x2 := x2) (a := a)  k
      rw [m_TB_expiring_L30s_93, if_neg q1, if_neg q4] at j
      exact j
    · refine Ev_aload (pc := 66) d_TB_expiring_66 rfl ?_
      refine Ev_aload_n (pc := 68) d_TB_expiring_68 rfl ?_
      refine Ev_getI (pc := 69) d_TB_expiring_69 rfl rfl rfl fl_TB_38 ?_
      refine Ev_iload_n (pc := 72) d_TB_expiring_72 rfl ?_
      refine Ev_iadd (pc := 73) d_TB_expiring_73 ?_
      refine Ev_callV (M' := M_UN_isExpired) (as := [vI ((gI h 0 0 5) + x1)]) (st := []) (a := 1) (i := a) (pc := 74) d_TB_expiring_74 rfl rfl rfl rfl rfl rfl rfl v_UN_isExpired lk_TB_300 rfl rfl (c_UN_isExpired  ?_)
      refine Ev_if_eq (tgt := 93) (pc := 77) d_TB_expiring_77 rfl (fun q5 => ?_) (fun q5 => ?_)
      · have j := c_TB_expiring_L30s_93 (E := E) (P := P) (h := h) (x1 := x1) (x2 := x2) (a := a)  k
        rw [m_TB_expiring_L30s_93, if_neg q1, if_pos q4, if_pos q5] at j
        exact j
      · refine Ev_aload_n (pc := 80) d_TB_expiring_80 rfl ?_
        refine Ev_getR (pc := 81) d_TB_expiring_81 rfl rfl rfl fl_TB_26 (rf_TB_2 hR) ?_
        refine Ev_iload_n (pc := 84) d_TB_expiring_84 rfl ?_
        refine Ev_aload (pc := 85) d_TB_expiring_85 rfl ?_
        refine Ev_getI (pc := 87) d_TB_expiring_87 rfl rfl rfl fl_TB_266 ?_
        refine Ev_callV (M' := M_RK_insert) (as := [vI (nI a), vI (gI h 1 a 4)]) (st := []) (a := 0) (i := 3) (pc := 90) d_TB_expiring_90 rfl rfl rfl rfl rfl rfl rfl v_RK_insert lk_TB_290 rfl rfl (c_RK_insert hR n4 n5 ?_)
        have j := c_TB_expiring_L30s_93 (E := E) (P := P) (h := h) (x1 := x1) (x2 := x2) (a := a)  k
        rw [m_TB_expiring_L30s_93, if_neg q1, if_pos q4, if_neg q5] at j
        exact j
def r_TB_expiring_L30 (h : ev_H) (x1 : Int32) (x2 : Int32) : Nat → ev_H
  | 0 => h
  | a + 1 => (m_TB_expiring_L30s_93 (r_TB_expiring_L30 h x1 x2 a) x1 x2 a)
theorem lp_TB_expiring_L30 {E : ev_E} {P : Option ev_V ⊕ Nat → ev_H → Prop} {h : ev_H} {x1 : Int32} {x2 : Int32} (n : Nat) (hn : n ≤ 48) (hb : ∀ a, a ≤ n → (gI (r_TB_expiring_L30 h x1 x2 a) 0 0 3) = nI n) (hR : ∀ a, a < n → rfs (r_TB_expiring_L30 h x1 x2 a)) (n2 : ∀ a, a < n → gR (r_TB_expiring_L30 h x1 x2 a) 0 1 a = vR 1 a) (n4 : ∀ a, a < n → (gI (r_TB_expiring_L30 h x1 x2 a) 0 3 2) = nI (gI (r_TB_expiring_L30 h x1 x2 a) 0 3 2).toNatClampNeg) (n5 : ∀ a, a < n → (gI (r_TB_expiring_L30 h x1 x2 a) 0 3 2).toNatClampNeg < 48) (k : Ev E M_TB_expiring 30 [(0, vR 0 0), (1, vI x1), (2, vI x2), (3, vI (nI n))] [] (r_TB_expiring_L30 h x1 x2 n) P) : Ev E M_TB_expiring 30 [(0, vR 0 0), (1, vI x1), (2, vI x2), (3, vI 0)] [] h P := by
  refine Ev_for n (fun a => [(0, vR 0 0), (1, vI x1), (2, vI x2), (3, vI (nI a))]) (fun a => (r_TB_expiring_L30 h x1 x2 a)) (fun a ha k => ?_) k
  have k2 : Ev E M_TB_expiring 30 [(0, vR 0 0), (1, vI x1), (2, vI x2), (3, vI (nI (a + 1)))] [] (r_TB_expiring_L30 h x1 x2 (a + 1)) P := k
  rw [nI_succ] at k2
  exact c_TB_expiring_L30s (by rw [(hb a (Nat.le_of_lt ha))]; exact nI_ge ha (Nat.lt_of_le_of_lt hn (by decide))) (hR a ha) (n2 a ha) (Nat.lt_of_lt_of_le ha (Nat.le_trans hn (by decide))) (n4 a ha) (n5 a ha) k2
def f_TB_expiring (h : ev_H) (x1 : Int32) (x2 : Int32) : (Option ev_V ⊕ Nat) × ev_H := (if x1 < 0 then (.inr 0, nx h) else (if x1 ≤ 60000 then (.inl (some (vI (f_RK_at (r_TB_expiring_L30 (f_RK_empty h) x1 x2 (gI (f_RK_empty h) 0 0 3).toNatClampNeg) x2))), (r_TB_expiring_L30 (f_RK_empty h) x1 x2 (gI (f_RK_empty h) 0 0 3).toNatClampNeg)) else (.inr 0, nx h)))
theorem c_TB_expiring {E : ev_E} {P : Option ev_V ⊕ Nat → ev_H → Prop} {h : ev_H} {x1 : Int32} {x2 : Int32} (hZ : cZ h < ZM) (hR : rfs h) (n2 : (gI h 0 0 3).toNatClampNeg ≤ 48) (n3 : ∀ a, a ≤ (gI h 0 0 3).toNatClampNeg → (gI (r_TB_expiring_L30 (f_RK_empty h) x1 x2 a) 0 0 3) = nI (gI h 0 0 3).toNatClampNeg) (n4 : ∀ a, a < (gI h 0 0 3).toNatClampNeg → rfs (r_TB_expiring_L30 (f_RK_empty h) x1 x2 a)) (n5 : ∀ a, a < (gI h 0 0 3).toNatClampNeg → gR (r_TB_expiring_L30 (f_RK_empty h) x1 x2 a) 0 1 a = vR 1 a) (n6 : ∀ a, a < (gI h 0 0 3).toNatClampNeg → (gI (r_TB_expiring_L30 (f_RK_empty h) x1 x2 a) 0 3 2) = nI (gI (r_TB_expiring_L30 (f_RK_empty h) x1 x2 a) 0 3 2).toNatClampNeg) (n7 : ∀ a, a < (gI h 0 0 3).toNatClampNeg → (gI (r_TB_expiring_L30 (f_RK_empty h) x1 x2 a) 0 3 2).toNatClampNeg < 48) (n8 : rfs (r_TB_expiring_L30 (f_RK_empty h) x1 x2 (gI h 0 0 3).toNatClampNeg)) (n9 : gI (r_TB_expiring_L30 (f_RK_empty h) x1 x2 (gI h 0 0 3).toNatClampNeg) 0 3 2 ≤ 48) (k : P (f_TB_expiring h x1 x2).1 (f_TB_expiring h x1 x2).2) : Ev E M_TB_expiring 0 [(0, vR 0 0), (1, vI x1), (2, vI x2)] [] h P := by
  refine Ev_iload_n (pc := 0) d_TB_expiring_0 rfl ?_
  refine Ev_if_lt (tgt := 10) (pc := 1) d_TB_expiring_1 rfl (fun q1 => ?_) (fun q1 => ?_)
  · refine Ev_throwW (pc := 10) d_TB_expiring_10 d_TB_expiring_13 d_TB_expiring_14 d_TB_expiring_17 d_TB_expiring_20 rfl rfl th_TB_31_298_35 rfl hZ ?_
    rw [f_TB_expiring, if_pos q1] at k
    exact k
  · refine Ev_iload_n (pc := 4) d_TB_expiring_4 rfl ?_
    refine Ev_ldc (pc := 5) d_TB_expiring_5 w_con_TB_57 ?_
    refine Ev_icmp_le (tgt := 21) (pc := 7) d_TB_expiring_7 rfl (fun q2 => ?_) (fun q2 => ?_)
    · refine Ev_aload_n (pc := 21) d_TB_expiring_21 rfl ?_
      refine Ev_getR (pc := 22) d_TB_expiring_22 rfl rfl rfl fl_TB_26 (rf_TB_2 hR) ?_
      refine Ev_callV (M' := M_RK_empty) (as := []) (st := []) (a := 0) (i := 3) (pc := 25) d_TB_expiring_25 rfl rfl rfl rfl rfl rfl rfl v_RK_empty lk_TB_287 rfl rfl (c_RK_empty  ?_)
      refine Ev_iconst (v := 0) (pc := 28) d_TB_expiring_28 (by decide) ?_
      refine Ev_istore_n (pc := 29) d_TB_expiring_29 rfl ?_
      refine lp_TB_expiring_L30 ((gI (f_RK_empty h) 0 0 3).toNatClampNeg) n2 n3 n4 n5 n6 n7 ?_
      refine Ev_iload_n (pc := 30) d_TB_expiring_30 rfl ?_
      refine Ev_aload_n (pc := 31) d_TB_expiring_31 rfl ?_
      refine Ev_getI (pc := 32) d_TB_expiring_32 rfl rfl rfl fl_TB_42 ?_
      refine Ev_icmp_ge (tgt := 99) (pc := 35) d_TB_expiring_35 rfl (fun _ => ?_) (fun q => absurd (lpx (n3 _ (Nat.le_refl _))) q)
      refine Ev_aload_n (pc := 99) d_TB_expiring_99 rfl ?_
      refine Ev_getR (pc := 100) d_TB_expiring_100 rfl rfl rfl fl_TB_26 (rf_TB_2 n8) ?_
      refine Ev_iload_n (pc := 103) d_TB_expiring_103 rfl ?_
      refine Ev_callV (M' := M_RK_at) (as := [vI x2]) (st := []) (a := 0) (i := 3) (pc := 104) d_TB_expiring_104 rfl rfl rfl rfl rfl rfl rfl v_RK_at lk_TB_293 rfl rfl (c_RK_at n8 n9 ?_)
      refine Ev_ireturn (pc := 107) d_TB_expiring_107 rfl rfl ?_
      rw [f_TB_expiring, if_neg q1, if_pos q2] at k
      exact k
    · refine Ev_throwW (pc := 10) d_TB_expiring_10 d_TB_expiring_13 d_TB_expiring_14 d_TB_expiring_17 d_TB_expiring_20 rfl rfl th_TB_31_298_35 rfl hZ ?_
      rw [f_TB_expiring, if_neg q1, if_neg q2] at k
      exact k
def m_TB_received_L15s_53 (h : ev_H) (x1 : Int32) (x2 : Int32) (a : Nat) : ev_H := (if (f_UN_wentTo h a x1) = 0 then h else (f_RK_insert h (nI a) (gI h 1 a 12)))
theorem c_TB_received_L15s_53 {E : ev_E} {P : Option ev_V ⊕ Nat → ev_H → Prop} {h : ev_H} {x1 : Int32} {x2 : Int32} {a : Nat} (k : Ev E M_TB_received 15 [(0, vR 0 0), (1, vI x1), (2, vI x2), (3, vI ((nI a) + 1))] [] (m_TB_received_L15s_53 h x1 x2 a) P) : Ev E M_TB_received 53 [(0, vR 0 0), (1, vI x1), (2, vI x2), (3, vI (nI a))] [] (m_TB_received_L15s_53 h x1 x2 a) P := by
  refine Ev_iinc (d := 1) (pc := 53) d_TB_received_53 rfl (by decide) rfl ?_
  refine Ev_goto (tgt := 15) (pc := 56) d_TB_received_56 rfl ?_
  exact k
theorem c_TB_received_L15s {E : ev_E} {P : Option ev_V ⊕ Nat → ev_H → Prop} {h : ev_H} {x1 : Int32} {x2 : Int32} {a : Nat} (q0 : ¬ (gI h 0 0 3) ≤ (nI a)) (hR : rfs h) (n2 : gR h 0 1 a = vR 1 a) (n3 : a < 48) (n4 : (gI h 0 3 2) = nI (gI h 0 3 2).toNatClampNeg) (n5 : (gI h 0 3 2).toNatClampNeg < 48) (k : Ev E M_TB_received 15 [(0, vR 0 0), (1, vI x1), (2, vI x2), (3, vI ((nI a) + 1))] [] (m_TB_received_L15s_53 h x1 x2 a) P) : Ev E M_TB_received 15 [(0, vR 0 0), (1, vI x1), (2, vI x2), (3, vI (nI a))] [] h P := by
  refine Ev_iload_n (pc := 15) d_TB_received_15 rfl ?_
  refine Ev_aload_n (pc := 16) d_TB_received_16 rfl ?_
  refine Ev_getI (pc := 17) d_TB_received_17 rfl rfl rfl fl_TB_42 ?_
  refine Ev_icmp_ge (tgt := 59) (pc := 20) d_TB_received_20 rfl (fun q => absurd q q0) (fun _ => ?_)
  refine Ev_aload_n (pc := 23) d_TB_received_23 rfl ?_
  refine Ev_getR (pc := 24) d_TB_received_24 rfl rfl rfl fl_TB_11 (rf_TB_0 hR) ?_
  refine Ev_iload_n (pc := 27) d_TB_received_27 rfl ?_
  refine Ev_aaldJ (pc := 28) d_TB_received_28 rfl rfl (Or.inl rfl) (nIp (Nat.lt_of_lt_of_le n3 (by decide))) (nIc (Nat.lt_of_lt_of_le n3 (by decide))) n3 n2 ?_
  refine Ev_iload_n (pc := 29) d_TB_received_29 rfl ?_
  refine Ev_callV (M' := M_UN_wentTo) (as := [vI x1]) (st := []) (a := 1) (i := a) (pc := 30) d_TB_received_30 rfl rfl rfl rfl rfl rfl rfl v_UN_wentTo lk_TB_307 rfl rfl (c_UN_wentTo  ?_)
  refine Ev_if_eq (tgt := 53) (pc := 33) d_TB_received_33 rfl (fun q1 => ?_) (fun q1 => ?_)
  · have j := c_TB_received_L15s_53 (E := E) (P := P) (h := h) (x1 := x1) (x2 := x2) (a := a)  k
    rw [m_TB_received_L15s_53, if_pos q1] at j
    exact j
  · refine Ev_aload_n (pc := 36) d_TB_received_36 rfl ?_
    refine Ev_getR (pc := 37) d_TB_received_37 rfl rfl rfl fl_TB_26 (rf_TB_2 hR) ?_
    refine Ev_iload_n (pc := 40) d_TB_received_40 rfl ?_
    refine Ev_aload_n (pc := 41) d_TB_received_41 rfl ?_
    refine Ev_getR (pc := 42) d_TB_received_42 rfl rfl rfl fl_TB_11 (rf_TB_0 hR) ?_
    refine Ev_iload_n (pc := 45) d_TB_received_45 rfl ?_
    refine Ev_aaldJ (pc := 46) d_TB_received_46 rfl rfl (Or.inl rfl) (nIp (Nat.lt_of_lt_of_le n3 (by decide))) (nIc (Nat.lt_of_lt_of_le n3 (by decide))) n3 n2 ?_
    refine Ev_getI (pc := 47) d_TB_received_47 rfl rfl rfl fl_TB_310 ?_
    refine Ev_callV (M' := M_RK_insert) (as := [vI (nI a), vI (gI h 1 a 12)]) (st := []) (a := 0) (i := 3) (pc := 50) d_TB_received_50 rfl rfl rfl rfl rfl rfl rfl v_RK_insert lk_TB_290 rfl rfl (c_RK_insert hR n4 n5 ?_)
    have j := c_TB_received_L15s_53 (E := E) (P := P) (h := h) (x1 := x1) (x2 := x2) (a := a)  k
    rw [m_TB_received_L15s_53, if_neg q1] at j
    exact j
def r_TB_received_L15 (h : ev_H) (x1 : Int32) (x2 : Int32) : Nat → ev_H
  | 0 => h
  | a + 1 => (m_TB_received_L15s_53 (r_TB_received_L15 h x1 x2 a) x1 x2 a)
theorem lp_TB_received_L15 {E : ev_E} {P : Option ev_V ⊕ Nat → ev_H → Prop} {h : ev_H} {x1 : Int32} {x2 : Int32} (n : Nat) (hn : n ≤ 48) (hb : ∀ a, a ≤ n → (gI (r_TB_received_L15 h x1 x2 a) 0 0 3) = nI n) (hR : ∀ a, a < n → rfs (r_TB_received_L15 h x1 x2 a)) (n2 : ∀ a, a < n → gR (r_TB_received_L15 h x1 x2 a) 0 1 a = vR 1 a) (n4 : ∀ a, a < n → (gI (r_TB_received_L15 h x1 x2 a) 0 3 2) = nI (gI (r_TB_received_L15 h x1 x2 a) 0 3 2).toNatClampNeg) (n5 : ∀ a, a < n → (gI (r_TB_received_L15 h x1 x2 a) 0 3 2).toNatClampNeg < 48) (k : Ev E M_TB_received 15 [(0, vR 0 0), (1, vI x1), (2, vI x2), (3, vI (nI n))] [] (r_TB_received_L15 h x1 x2 n) P) : Ev E M_TB_received 15 [(0, vR 0 0), (1, vI x1), (2, vI x2), (3, vI 0)] [] h P := by
  refine Ev_for n (fun a => [(0, vR 0 0), (1, vI x1), (2, vI x2), (3, vI (nI a))]) (fun a => (r_TB_received_L15 h x1 x2 a)) (fun a ha k => ?_) k
  have k2 : Ev E M_TB_received 15 [(0, vR 0 0), (1, vI x1), (2, vI x2), (3, vI (nI (a + 1)))] [] (r_TB_received_L15 h x1 x2 (a + 1)) P := k
  rw [nI_succ] at k2
  exact c_TB_received_L15s (by rw [(hb a (Nat.le_of_lt ha))]; exact nI_ge ha (Nat.lt_of_le_of_lt hn (by decide))) (hR a ha) (n2 a ha) (Nat.lt_of_lt_of_le ha (Nat.le_trans hn (by decide))) (n4 a ha) (n5 a ha) k2
def f_TB_received (h : ev_H) (x1 : Int32) (x2 : Int32) : (Option ev_V ⊕ Nat) × ev_H := (if (f_TB_isBelow x1 (gI h 0 0 4)) = 0 then (.inr 2, nx h) else (.inl (some (vI (f_RK_at (r_TB_received_L15 (f_RK_empty h) x1 x2 (gI (f_RK_empty h) 0 0 3).toNatClampNeg) x2))), (r_TB_received_L15 (f_RK_empty h) x1 x2 (gI (f_RK_empty h) 0 0 3).toNatClampNeg)))
theorem c_TB_received {E : ev_E} {P : Option ev_V ⊕ Nat → ev_H → Prop} {h : ev_H} {x1 : Int32} {x2 : Int32} (hP : pok h) (hR : rfs h) (hZ : cZ h < ZM) (n3 : (gI h 0 0 3).toNatClampNeg ≤ 48) (n4 : ∀ a, a ≤ (gI h 0 0 3).toNatClampNeg → (gI (r_TB_received_L15 (f_RK_empty h) x1 x2 a) 0 0 3) = nI (gI h 0 0 3).toNatClampNeg) (n5 : ∀ a, a < (gI h 0 0 3).toNatClampNeg → rfs (r_TB_received_L15 (f_RK_empty h) x1 x2 a)) (n6 : ∀ a, a < (gI h 0 0 3).toNatClampNeg → gR (r_TB_received_L15 (f_RK_empty h) x1 x2 a) 0 1 a = vR 1 a) (n7 : ∀ a, a < (gI h 0 0 3).toNatClampNeg → (gI (r_TB_received_L15 (f_RK_empty h) x1 x2 a) 0 3 2) = nI (gI (r_TB_received_L15 (f_RK_empty h) x1 x2 a) 0 3 2).toNatClampNeg) (n8 : ∀ a, a < (gI h 0 0 3).toNatClampNeg → (gI (r_TB_received_L15 (f_RK_empty h) x1 x2 a) 0 3 2).toNatClampNeg < 48) (n9 : rfs (r_TB_received_L15 (f_RK_empty h) x1 x2 (gI h 0 0 3).toNatClampNeg)) (n10 : gI (r_TB_received_L15 (f_RK_empty h) x1 x2 (gI h 0 0 3).toNatClampNeg) 0 3 2 ≤ 48) (k : P (f_TB_received h x1 x2).1 (f_TB_received h x1 x2).2) : Ev E M_TB_received 0 [(0, vR 0 0), (1, vI x1), (2, vI x2)] [] h P := by
  refine Ev_aload_n (pc := 0) d_TB_received_0 rfl ?_
  refine Ev_iload_n (pc := 1) d_TB_received_1 rfl ?_
  by_cases q1 : (f_TB_isBelow x1 (gI h 0 0 4)) = 0
  · refine Ev_callV (M' := M_TB_patientAt) (as := [vI x1]) (st := []) (a := 0) (i := 0) (pc := 2) d_TB_received_2 rfl rfl rfl rfl rfl rfl rfl v_TB_patientAt lk_TB_146 rfl rfl (c_TB_patientAt hR hP hZ ?_)
    rw [f_TB_patientAt, if_pos q1]
    refine Or.inl ⟨rfl, ?_⟩
    rw [f_TB_received, if_pos q1] at k
    exact k
  · refine Ev_callV (M' := M_TB_patientAt) (as := [vI x1]) (st := []) (a := 0) (i := 0) (pc := 2) d_TB_received_2 rfl rfl rfl rfl rfl rfl rfl v_TB_patientAt lk_TB_146 rfl rfl (c_TB_patientAt hR hP hZ ?_)
    rw [f_TB_patientAt, if_neg q1]
    refine Ev_pop (pc := 5) d_TB_received_5 rfl ?_
    refine Ev_aload_n (pc := 6) d_TB_received_6 rfl ?_
    refine Ev_getR (pc := 7) d_TB_received_7 rfl rfl rfl fl_TB_26 (rf_TB_2 hR) ?_
    refine Ev_callV (M' := M_RK_empty) (as := []) (st := []) (a := 0) (i := 3) (pc := 10) d_TB_received_10 rfl rfl rfl rfl rfl rfl rfl v_RK_empty lk_TB_287 rfl rfl (c_RK_empty  ?_)
    refine Ev_iconst (v := 0) (pc := 13) d_TB_received_13 (by decide) ?_
    refine Ev_istore_n (pc := 14) d_TB_received_14 rfl ?_
    refine lp_TB_received_L15 ((gI (f_RK_empty h) 0 0 3).toNatClampNeg) n3 n4 n5 n6 n7 n8 ?_
    refine Ev_iload_n (pc := 15) d_TB_received_15 rfl ?_
    refine Ev_aload_n (pc := 16) d_TB_received_16 rfl ?_
    refine Ev_getI (pc := 17) d_TB_received_17 rfl rfl rfl fl_TB_42 ?_
    refine Ev_icmp_ge (tgt := 59) (pc := 20) d_TB_received_20 rfl (fun _ => ?_) (fun q => absurd (lpx (n4 _ (Nat.le_refl _))) q)
    refine Ev_aload_n (pc := 59) d_TB_received_59 rfl ?_
    refine Ev_getR (pc := 60) d_TB_received_60 rfl rfl rfl fl_TB_26 (rf_TB_2 n9) ?_
    refine Ev_iload_n (pc := 63) d_TB_received_63 rfl ?_
    refine Ev_callV (M' := M_RK_at) (as := [vI x2]) (st := []) (a := 0) (i := 3) (pc := 64) d_TB_received_64 rfl rfl rfl rfl rfl rfl rfl v_RK_at lk_TB_293 rfl rfl (c_RK_at n9 n10 ?_)
    refine Ev_ireturn (pc := 67) d_TB_received_67 rfl rfl ?_
    rw [f_TB_received, if_neg q1] at k
    exact k
def m_TB_lookback_L28s_62 (h : ev_H) (x1 : Int32) (x2 : Int32) (a : Nat) : ev_H := (if (f_TB_firstIssue h (nI a) (1 <<< (x1 &&& 31))) = (-1) then h else (f_RK_insert h (nI a) (f_TB_firstIssue h (nI a) (1 <<< (x1 &&& 31)))))
theorem c_TB_lookback_L28s_62 {E : ev_E} {P : Option ev_V ⊕ Nat → ev_H → Prop} {h : ev_H} {x1 : Int32} {x2 : Int32} {a : Nat} (k : Ev E M_TB_lookback 28 [(0, vR 0 0), (1, vI x1), (2, vI x2), (3, vI ((nI a) + 1))] [] (m_TB_lookback_L28s_62 h x1 x2 a) P) : Ev E M_TB_lookback 62 [(0, vR 0 0), (1, vI x1), (2, vI x2), (3, vI (nI a)), (4, vI (f_TB_firstIssue h (nI a) (1 <<< (x1 &&& 31))))] [] (m_TB_lookback_L28s_62 h x1 x2 a) P := by
  refine Ev_iinc (d := 1) (pc := 62) d_TB_lookback_62 rfl (by decide) rfl ?_
  refine Ev_goto (tgt := 28) (pc := 65) d_TB_lookback_65 rfl ?_
  refine Ev_sub (lsub ?_) k
  exact (And.intro rfl (And.intro rfl (And.intro rfl (And.intro rfl trivial))))
theorem c_TB_lookback_L28s {E : ev_E} {P : Option ev_V ⊕ Nat → ev_H → Prop} {h : ev_H} {x1 : Int32} {x2 : Int32} {a : Nat} (q0 : ¬ (gI h 0 0 4) ≤ (nI a)) (n1 : (gI h 0 0 3).toNatClampNeg ≤ 48) (n2 : (gI h 0 0 3) = nI (gI h 0 0 3).toNatClampNeg) (hR : rfs h) (n4 : ∀ b, b < (gI h 0 0 3).toNatClampNeg → gR h 0 1 b = vR 1 b) (n5 : (gI h 0 3 2) = nI (gI h 0 3 2).toNatClampNeg) (n6 : (gI h 0 3 2).toNatClampNeg < 48) (k : Ev E M_TB_lookback 28 [(0, vR 0 0), (1, vI x1), (2, vI x2), (3, vI ((nI a) + 1))] [] (m_TB_lookback_L28s_62 h x1 x2 a) P) : Ev E M_TB_lookback 28 [(0, vR 0 0), (1, vI x1), (2, vI x2), (3, vI (nI a))] [] h P := by
  refine Ev_iload_n (pc := 28) d_TB_lookback_28 rfl ?_
  refine Ev_aload_n (pc := 29) d_TB_lookback_29 rfl ?_
  refine Ev_getI (pc := 30) d_TB_lookback_30 rfl rfl rfl fl_TB_140 ?_
  refine Ev_icmp_ge (tgt := 68) (pc := 33) d_TB_lookback_33 rfl (fun q => absurd q q0) (fun _ => ?_)
  refine Ev_aload_n (pc := 36) d_TB_lookback_36 rfl ?_
  refine Ev_iload_n (pc := 37) d_TB_lookback_37 rfl ?_
  refine Ev_iconst (v := 1) (pc := 38) d_TB_lookback_38 (by decide) ?_
  refine Ev_iload_n (pc := 39) d_TB_lookback_39 rfl ?_
  refine Ev_ishl (pc := 40) d_TB_lookback_40 ?_
  refine Ev_callV (M' := M_TB_firstIssue) (as := [vI (nI a), vI (1 <<< (x1 &&& 31))]) (st := []) (a := 0) (i := 0) (pc := 41) d_TB_lookback_41 rfl rfl rfl rfl rfl rfl rfl v_TB_firstIssue lk_TB_303 rfl rfl (c_TB_firstIssue n1 n2 hR n4 ?_)
  refine Ev_istore (pc := 44) d_TB_lookback_44 rfl ?_
  refine Ev_iload (pc := 46) d_TB_lookback_46 rfl ?_
  refine Ev_iconst (v := -1) (pc := 48) d_TB_lookback_48 (by decide) ?_
  refine Ev_icmp_eq (tgt := 62) (pc := 49) d_TB_lookback_49 rfl (fun q1 => ?_) (fun q1 => ?_)
  · have j := c_TB_lookback_L28s_62 (E := E) (P := P) (h := h) (x1 := x1) (x2 := x2) (a := a)  k
    rw [m_TB_lookback_L28s_62, if_pos q1] at j
    exact j
  · refine Ev_aload_n (pc := 52) d_TB_lookback_52 rfl ?_
    refine Ev_getR (pc := 53) d_TB_lookback_53 rfl rfl rfl fl_TB_26 (rf_TB_2 hR) ?_
    refine Ev_iload_n (pc := 56) d_TB_lookback_56 rfl ?_
    refine Ev_iload (pc := 57) d_TB_lookback_57 rfl ?_
    refine Ev_callV (M' := M_RK_insert) (as := [vI (nI a), vI (f_TB_firstIssue h (nI a) (1 <<< (x1 &&& 31)))]) (st := []) (a := 0) (i := 3) (pc := 59) d_TB_lookback_59 rfl rfl rfl rfl rfl rfl rfl v_RK_insert lk_TB_290 rfl rfl (c_RK_insert hR n5 n6 ?_)
    have j := c_TB_lookback_L28s_62 (E := E) (P := P) (h := h) (x1 := x1) (x2 := x2) (a := a)  k
    rw [m_TB_lookback_L28s_62, if_neg q1] at j
    exact j
def r_TB_lookback_L28 (h : ev_H) (x1 : Int32) (x2 : Int32) : Nat → ev_H
  | 0 => h
  | a + 1 => (m_TB_lookback_L28s_62 (r_TB_lookback_L28 h x1 x2 a) x1 x2 a)
theorem lp_TB_lookback_L28 {E : ev_E} {P : Option ev_V ⊕ Nat → ev_H → Prop} {h : ev_H} {x1 : Int32} {x2 : Int32} (n : Nat) (hn : n ≤ 10) (hb : ∀ a, a ≤ n → (gI (r_TB_lookback_L28 h x1 x2 a) 0 0 4) = nI n) (n1 : ∀ a, a < n → (gI (r_TB_lookback_L28 h x1 x2 a) 0 0 3).toNatClampNeg ≤ 48) (n2 : ∀ a, a < n → (gI (r_TB_lookback_L28 h x1 x2 a) 0 0 3) = nI (gI (r_TB_lookback_L28 h x1 x2 a) 0 0 3).toNatClampNeg) (hR : ∀ a, a < n → rfs (r_TB_lookback_L28 h x1 x2 a)) (n4 : ∀ a, a < n → ∀ b, b < (gI (r_TB_lookback_L28 h x1 x2 a) 0 0 3).toNatClampNeg → gR (r_TB_lookback_L28 h x1 x2 a) 0 1 b = vR 1 b) (n5 : ∀ a, a < n → (gI (r_TB_lookback_L28 h x1 x2 a) 0 3 2) = nI (gI (r_TB_lookback_L28 h x1 x2 a) 0 3 2).toNatClampNeg) (n6 : ∀ a, a < n → (gI (r_TB_lookback_L28 h x1 x2 a) 0 3 2).toNatClampNeg < 48) (k : Ev E M_TB_lookback 28 [(0, vR 0 0), (1, vI x1), (2, vI x2), (3, vI (nI n))] [] (r_TB_lookback_L28 h x1 x2 n) P) : Ev E M_TB_lookback 28 [(0, vR 0 0), (1, vI x1), (2, vI x2), (3, vI 0)] [] h P := by
  refine Ev_for n (fun a => [(0, vR 0 0), (1, vI x1), (2, vI x2), (3, vI (nI a))]) (fun a => (r_TB_lookback_L28 h x1 x2 a)) (fun a ha k => ?_) k
  have k2 : Ev E M_TB_lookback 28 [(0, vR 0 0), (1, vI x1), (2, vI x2), (3, vI (nI (a + 1)))] [] (r_TB_lookback_L28 h x1 x2 (a + 1)) P := k
  rw [nI_succ] at k2
  exact c_TB_lookback_L28s (by rw [(hb a (Nat.le_of_lt ha))]; exact nI_ge ha (Nat.lt_of_le_of_lt hn (by decide))) (n1 a ha) (n2 a ha) (hR a ha) (n4 a ha) (n5 a ha) (n6 a ha) k2
def f_TB_lookback (h : ev_H) (x1 : Int32) (x2 : Int32) : (Option ev_V ⊕ Nat) × ev_H := (if (f_TB_isBelow x1 16) = 0 then (.inr 0, nx h) else (.inl (some (vI (f_RK_at (r_TB_lookback_L28 (f_RK_empty h) x1 x2 (gI (f_RK_empty h) 0 0 4).toNatClampNeg) x2))), (r_TB_lookback_L28 (f_RK_empty h) x1 x2 (gI (f_RK_empty h) 0 0 4).toNatClampNeg)))
theorem c_TB_lookback {E : ev_E} {P : Option ev_V ⊕ Nat → ev_H → Prop} {h : ev_H} {x1 : Int32} {x2 : Int32} (hR : rfs h) (n1 : (gI h 0 0 4).toNatClampNeg ≤ 10) (n2 : ∀ a, a ≤ (gI h 0 0 4).toNatClampNeg → (gI (r_TB_lookback_L28 (f_RK_empty h) x1 x2 a) 0 0 4) = nI (gI h 0 0 4).toNatClampNeg) (n3 : ∀ a, a < (gI h 0 0 4).toNatClampNeg → (gI (r_TB_lookback_L28 (f_RK_empty h) x1 x2 a) 0 0 3).toNatClampNeg ≤ 48) (n4 : ∀ a, a < (gI h 0 0 4).toNatClampNeg → (gI (r_TB_lookback_L28 (f_RK_empty h) x1 x2 a) 0 0 3) = nI (gI (r_TB_lookback_L28 (f_RK_empty h) x1 x2 a) 0 0 3).toNatClampNeg) (n5 : ∀ a, a < (gI h 0 0 4).toNatClampNeg → rfs (r_TB_lookback_L28 (f_RK_empty h) x1 x2 a)) (n6 : ∀ a, a < (gI h 0 0 4).toNatClampNeg → ∀ b, b < (gI (r_TB_lookback_L28 (f_RK_empty h) x1 x2 a) 0 0 3).toNatClampNeg → gR (r_TB_lookback_L28 (f_RK_empty h) x1 x2 a) 0 1 b = vR 1 b) (n7 : ∀ a, a < (gI h 0 0 4).toNatClampNeg → (gI (r_TB_lookback_L28 (f_RK_empty h) x1 x2 a) 0 3 2) = nI (gI (r_TB_lookback_L28 (f_RK_empty h) x1 x2 a) 0 3 2).toNatClampNeg) (n8 : ∀ a, a < (gI h 0 0 4).toNatClampNeg → (gI (r_TB_lookback_L28 (f_RK_empty h) x1 x2 a) 0 3 2).toNatClampNeg < 48) (n9 : rfs (r_TB_lookback_L28 (f_RK_empty h) x1 x2 (gI h 0 0 4).toNatClampNeg)) (n10 : gI (r_TB_lookback_L28 (f_RK_empty h) x1 x2 (gI h 0 0 4).toNatClampNeg) 0 3 2 ≤ 48) (hZ : cZ h < ZM) (k : P (f_TB_lookback h x1 x2).1 (f_TB_lookback h x1 x2).2) : Ev E M_TB_lookback 0 [(0, vR 0 0), (1, vI x1), (2, vI x2)] [] h P := by
  refine Ev_iload_n (pc := 0) d_TB_lookback_0 rfl ?_
  refine Ev_bipush (v := 16) (pc := 1) d_TB_lookback_1 (by decide) ?_
  refine Ev_callS (M' := M_TB_isBelow) (as := [vI x1, vI 16]) (st := []) (pc := 3) d_TB_lookback_3 rfl rfl rfl s_TB_isBelow lk_TB_48 rfl rfl (c_TB_isBelow  ?_)
  refine Ev_if_ne (tgt := 19) (pc := 6) d_TB_lookback_6 rfl (fun q1 => ?_) (fun q1 => ?_)
  · refine Ev_aload_n (pc := 19) d_TB_lookback_19 rfl ?_
    refine Ev_getR (pc := 20) d_TB_lookback_20 rfl rfl rfl fl_TB_26 (rf_TB_2 hR) ?_
    refine Ev_callV (M' := M_RK_empty) (as := []) (st := []) (a := 0) (i := 3) (pc := 23) d_TB_lookback_23 rfl rfl rfl rfl rfl rfl rfl v_RK_empty lk_TB_287 rfl rfl (c_RK_empty  ?_)
    refine Ev_iconst (v := 0) (pc := 26) d_TB_lookback_26 (by decide) ?_
    refine Ev_istore_n (pc := 27) d_TB_lookback_27 rfl ?_
    refine lp_TB_lookback_L28 ((gI (f_RK_empty h) 0 0 4).toNatClampNeg) n1 n2 n3 n4 n5 n6 n7 n8 ?_
    refine Ev_iload_n (pc := 28) d_TB_lookback_28 rfl ?_
    refine Ev_aload_n (pc := 29) d_TB_lookback_29 rfl ?_
    refine Ev_getI (pc := 30) d_TB_lookback_30 rfl rfl rfl fl_TB_140 ?_
    refine Ev_icmp_ge (tgt := 68) (pc := 33) d_TB_lookback_33 rfl (fun _ => ?_) (fun q => absurd (lpx (n2 _ (Nat.le_refl _))) q)
    refine Ev_aload_n (pc := 68) d_TB_lookback_68 rfl ?_
    refine Ev_getR (pc := 69) d_TB_lookback_69 rfl rfl rfl fl_TB_26 (rf_TB_2 n9) ?_
    refine Ev_iload_n (pc := 72) d_TB_lookback_72 rfl ?_
    refine Ev_callV (M' := M_RK_at) (as := [vI x2]) (st := []) (a := 0) (i := 3) (pc := 73) d_TB_lookback_73 rfl rfl rfl rfl rfl rfl rfl v_RK_at lk_TB_293 rfl rfl (c_RK_at n9 n10 ?_)
    refine Ev_ireturn (pc := 76) d_TB_lookback_76 rfl rfl ?_
    rw [f_TB_lookback, if_neg q1] at k
    exact k
  · refine Ev_throw (pc := 9) d_TB_lookback_9 d_TB_lookback_12 d_TB_lookback_13 d_TB_lookback_15 d_TB_lookback_18 rfl rfl th_TB_31_255_35 rfl hZ ?_
    rw [f_TB_lookback, if_pos q1] at k
    exact k
def vv_JI_bitCount_24 (x0 : Int32) : Int32 := ((x0 - (((x0.toUInt32 >>> ((1 : Int32) &&& 31).toUInt32).toInt32) &&& 1431655765)) &&& 858993459) + ((((x0 - (((x0.toUInt32 >>> ((1 : Int32) &&& 31).toUInt32).toInt32) &&& 1431655765)).toUInt32 >>> ((2 : Int32) &&& 31).toUInt32).toInt32) &&& 858993459)
def vv_JI_bitCount_34 (x0 : Int32) : Int32 := ((vv_JI_bitCount_24 x0) + (((vv_JI_bitCount_24 x0).toUInt32 >>> ((4 : Int32) &&& 31).toUInt32).toInt32)) &&& 252645135
def vv_JI_bitCount_41 (x0 : Int32) : Int32 := (vv_JI_bitCount_34 x0) + (((vv_JI_bitCount_34 x0).toUInt32 >>> ((8 : Int32) &&& 31).toUInt32).toInt32)
def vv_JI_bitCount_48 (x0 : Int32) : Int32 := (vv_JI_bitCount_41 x0) + (((vv_JI_bitCount_41 x0).toUInt32 >>> ((16 : Int32) &&& 31).toUInt32).toInt32)
def f_JI_bitCount (x0 : Int32) : Int32 := ((vv_JI_bitCount_48 x0) &&& 63)
theorem c_JI_bitCount {E : ev_E} {P : Option ev_V ⊕ Nat → ev_H → Prop} {h : ev_H} {x0 : Int32} (k : P (.inl (some (vI (f_JI_bitCount x0)))) h) : Ev E M_JI_bitCount 0 [(0, vI x0)] [] h P := by
  refine Ev_iload_n (pc := 0) d_JI_bitCount_0 rfl ?_
  refine Ev_iload_n (pc := 1) d_JI_bitCount_1 rfl ?_
  refine Ev_iconst (v := 1) (pc := 2) d_JI_bitCount_2 (by decide) ?_
  refine Ev_iushr (pc := 3) d_JI_bitCount_3 rfl ?_
  refine Ev_ldcw (pc := 4) d_JI_bitCount_4 w_con_JI_265 ?_
  refine Ev_iand (pc := 7) d_JI_bitCount_7 ?_
  refine Ev_isub (pc := 8) d_JI_bitCount_8 ?_
  refine Ev_istore_n (pc := 9) d_JI_bitCount_9 rfl ?_
  refine Ev_iload_n (pc := 10) d_JI_bitCount_10 rfl ?_
  refine Ev_ldcw (pc := 11) d_JI_bitCount_11 w_con_JI_266 ?_
  refine Ev_iand (pc := 14) d_JI_bitCount_14 ?_
  refine Ev_iload_n (pc := 15) d_JI_bitCount_15 rfl ?_
  refine Ev_iconst (v := 2) (pc := 16) d_JI_bitCount_16 (by decide) ?_
  refine Ev_iushr (pc := 17) d_JI_bitCount_17 rfl ?_
  refine Ev_ldcw (pc := 18) d_JI_bitCount_18 w_con_JI_266 ?_
  refine Ev_iand (pc := 21) d_JI_bitCount_21 ?_
  refine Ev_iadd (pc := 22) d_JI_bitCount_22 ?_
  refine Ev_istore_n (pc := 23) d_JI_bitCount_23 rfl ?_
  show Ev E M_JI_bitCount 24 [(0, vI (vv_JI_bitCount_24 x0))] [] h P
  refine Ev_iload_n (pc := 24) d_JI_bitCount_24 rfl ?_
  refine Ev_iload_n (pc := 25) d_JI_bitCount_25 rfl ?_
  refine Ev_iconst (v := 4) (pc := 26) d_JI_bitCount_26 (by decide) ?_
  refine Ev_iushr (pc := 27) d_JI_bitCount_27 rfl ?_
  refine Ev_iadd (pc := 28) d_JI_bitCount_28 ?_
  refine Ev_ldcw (pc := 29) d_JI_bitCount_29 w_con_JI_267 ?_
  refine Ev_iand (pc := 32) d_JI_bitCount_32 ?_
  refine Ev_istore_n (pc := 33) d_JI_bitCount_33 rfl ?_
  show Ev E M_JI_bitCount 34 [(0, vI (vv_JI_bitCount_34 x0))] [] h P
  refine Ev_iload_n (pc := 34) d_JI_bitCount_34 rfl ?_
  refine Ev_iload_n (pc := 35) d_JI_bitCount_35 rfl ?_
  refine Ev_bipush (v := 8) (pc := 36) d_JI_bitCount_36 (by decide) ?_
  refine Ev_iushr (pc := 38) d_JI_bitCount_38 rfl ?_
  refine Ev_iadd (pc := 39) d_JI_bitCount_39 ?_
  refine Ev_istore_n (pc := 40) d_JI_bitCount_40 rfl ?_
  show Ev E M_JI_bitCount 41 [(0, vI (vv_JI_bitCount_41 x0))] [] h P
  refine Ev_iload_n (pc := 41) d_JI_bitCount_41 rfl ?_
  refine Ev_iload_n (pc := 42) d_JI_bitCount_42 rfl ?_
  refine Ev_bipush (v := 16) (pc := 43) d_JI_bitCount_43 (by decide) ?_
  refine Ev_iushr (pc := 45) d_JI_bitCount_45 rfl ?_
  refine Ev_iadd (pc := 46) d_JI_bitCount_46 ?_
  refine Ev_istore_n (pc := 47) d_JI_bitCount_47 rfl ?_
  show Ev E M_JI_bitCount 48 [(0, vI (vv_JI_bitCount_48 x0))] [] h P
  refine Ev_iload_n (pc := 48) d_JI_bitCount_48 rfl ?_
  refine Ev_bipush (v := 63) (pc := 49) d_JI_bitCount_49 (by decide) ?_
  refine Ev_iand (pc := 51) d_JI_bitCount_51 ?_
  refine Ev_ireturn (pc := 52) d_JI_bitCount_52 rfl rfl ?_
  rw [f_JI_bitCount] at k
  exact k
def f_TB_antibody (h : ev_H) (x1 : Int32) (x2 : Int32) : (Option ev_V ⊕ Nat) × ev_H := (if (f_TB_isBelow x1 (gI h 0 0 4)) = 0 then (.inr 2, nx h) else (if (f_TB_isBelow x2 8) = 0 then (.inr 0, nx h) else (.inl (some (vI (f_JI_bitCount (gI (sI h 2 x1.toNatClampNeg 4 ((gI h 2 x1.toNatClampNeg 4) ||| (1 <<< (x2 &&& 31)))) 2 x1.toNatClampNeg 4)))), sI h 2 x1.toNatClampNeg 4 ((gI h 2 x1.toNatClampNeg 4) ||| (1 <<< (x2 &&& 31))))))
theorem c_TB_antibody {E : ev_E} {P : Option ev_V ⊕ Nat → ev_H → Prop} {h : ev_H} {x1 : Int32} {x2 : Int32} (hP : pok h) (hR : rfs h) (hZ : cZ h < ZM) (k : P (f_TB_antibody h x1 x2).1 (f_TB_antibody h x1 x2).2) : Ev E M_TB_antibody 0 [(0, vR 0 0), (1, vI x1), (2, vI x2)] [] h P := by
  refine Ev_aload_n (pc := 0) d_TB_antibody_0 rfl ?_
  refine Ev_iload_n (pc := 1) d_TB_antibody_1 rfl ?_
  by_cases q1 : (f_TB_isBelow x1 (gI h 0 0 4)) = 0
  · refine Ev_callV (M' := M_TB_patientAt) (as := [vI x1]) (st := []) (a := 0) (i := 0) (pc := 2) d_TB_antibody_2 rfl rfl rfl rfl rfl rfl rfl v_TB_patientAt lk_TB_146 rfl rfl (c_TB_patientAt hR hP hZ ?_)
    rw [f_TB_patientAt, if_pos q1]
    refine Or.inl ⟨rfl, ?_⟩
    rw [f_TB_antibody, if_pos q1] at k
    exact k
  · refine Ev_callV (M' := M_TB_patientAt) (as := [vI x1]) (st := []) (a := 0) (i := 0) (pc := 2) d_TB_antibody_2 rfl rfl rfl rfl rfl rfl rfl v_TB_patientAt lk_TB_146 rfl rfl (c_TB_patientAt hR hP hZ ?_)
    rw [f_TB_patientAt, if_neg q1]
    refine Ev_astore_n (pc := 5) d_TB_antibody_5 rfl ?_
    refine Ev_iload_n (pc := 6) d_TB_antibody_6 rfl ?_
    refine Ev_bipush (v := 8) (pc := 7) d_TB_antibody_7 (by decide) ?_
    refine Ev_callS (M' := M_TB_isBelow) (as := [vI x2, vI 8]) (st := []) (pc := 9) d_TB_antibody_9 rfl rfl rfl s_TB_isBelow lk_TB_48 rfl rfl (c_TB_isBelow  ?_)
    refine Ev_if_ne (tgt := 25) (pc := 12) d_TB_antibody_12 rfl (fun q2 => ?_) (fun q2 => ?_)
    · refine Ev_aload_n (pc := 25) d_TB_antibody_25 rfl ?_
      refine Ev_dup (pc := 26) d_TB_antibody_26 rfl ?_
      refine Ev_getI (pc := 27) d_TB_antibody_27 rfl rfl rfl fl_TB_168 ?_
      refine Ev_iconst (v := 1) (pc := 30) d_TB_antibody_30 (by decide) ?_
      refine Ev_iload_n (pc := 31) d_TB_antibody_31 rfl ?_
      refine Ev_ishl (pc := 32) d_TB_antibody_32 ?_
      refine Ev_ior (pc := 33) d_TB_antibody_33 ?_
      refine Ev_putI (pc := 34) d_TB_antibody_34 rfl rfl rfl fl_TB_168 rfl ?_
      refine Ev_aload_n (pc := 37) d_TB_antibody_37 rfl ?_
      refine Ev_getI (pc := 38) d_TB_antibody_38 rfl rfl rfl fl_TB_168 ?_
      refine Ev_callS (M' := M_JI_bitCount) (as := [vI (gI (sI h 2 x1.toNatClampNeg 4 ((gI h 2 x1.toNatClampNeg 4) ||| (1 <<< (x2 &&& 31)))) 2 x1.toNatClampNeg 4)]) (st := []) (pc := 41) d_TB_antibody_41 rfl rfl rfl s_JI_bitCount lk_TB_171 rfl rfl (c_JI_bitCount  ?_)
      refine Ev_ireturn (pc := 44) d_TB_antibody_44 rfl rfl ?_
      rw [f_TB_antibody, if_neg q1, if_neg q2] at k
      exact k
    · refine Ev_throw (pc := 15) d_TB_antibody_15 d_TB_antibody_18 d_TB_antibody_19 d_TB_antibody_21 d_TB_antibody_24 rfl rfl th_TB_31_166_35 rfl hZ ?_
      rw [f_TB_antibody, if_neg q1, if_pos q2] at k
      exact k
theorem c_PA_init_L29s {E : ev_E} {P : Option ev_V ⊕ Nat → ev_H → Prop} {h : ev_H} {p : Nat} {a : Nat} (q0 : ¬ 48 ≤ (nI a)) (n1 : gR h 2 p 6 = vR 3 p) (n2 : a < 48) (k : Ev E M_PA_init 29 [(0, vR 2 p), (1, vI ((nI a) + 1))] [] (sI h 3 p a (-1)) P) : Ev E M_PA_init 29 [(0, vR 2 p), (1, vI (nI a))] [] h P := by
  refine Ev_iload_n (pc := 29) d_PA_init_29 rfl ?_
  refine Ev_bipush (v := 48) (pc := 30) d_PA_init_30 (by decide) ?_
  refine Ev_icmp_ge (tgt := 48) (pc := 32) d_PA_init_32 rfl (fun q => absurd q q0) (fun _ => ?_)
  refine Ev_aload_n (pc := 35) d_PA_init_35 rfl ?_
  refine Ev_getR (pc := 36) d_PA_init_36 rfl rfl rfl fl_PA_21 n1 ?_
  refine Ev_iload_n (pc := 39) d_PA_init_39 rfl ?_
  refine Ev_iconst (v := -1) (pc := 40) d_PA_init_40 (by decide) ?_
  refine Ev_iastJ (pc := 41) d_PA_init_41 rfl rfl (nIp (Nat.lt_of_lt_of_le n2 (by decide))) (nIc (Nat.lt_of_lt_of_le n2 (by decide))) n2 ?_
  refine Ev_iinc (d := 1) (pc := 42) d_PA_init_42 rfl (by decide) rfl ?_
  refine Ev_goto (tgt := 29) (pc := 45) d_PA_init_45 rfl ?_
  exact k
def r_PA_init_L29 (h : ev_H) (p : Nat) : Nat → ev_H
  | 0 => h
  | a + 1 => (sI (r_PA_init_L29 h p a) 3 p a (-1))
theorem lp_PA_init_L29 {E : ev_E} {P : Option ev_V ⊕ Nat → ev_H → Prop} {h : ev_H} {p : Nat} (n : Nat) (hn : n ≤ 48) (hb : 48 = nI n) (n1 : ∀ a, a < n → gR (r_PA_init_L29 h p a) 2 p 6 = vR 3 p) (k : Ev E M_PA_init 29 [(0, vR 2 p), (1, vI (nI n))] [] (r_PA_init_L29 h p n) P) : Ev E M_PA_init 29 [(0, vR 2 p), (1, vI 0)] [] h P := by
  refine Ev_for n (fun a => [(0, vR 2 p), (1, vI (nI a))]) (fun a => (r_PA_init_L29 h p a)) (fun a ha k => ?_) k
  have k2 : Ev E M_PA_init 29 [(0, vR 2 p), (1, vI (nI (a + 1)))] [] (r_PA_init_L29 h p (a + 1)) P := k
  rw [nI_succ] at k2
  exact c_PA_init_L29s (by rw [hb]; exact nI_ge ha (Nat.lt_of_le_of_lt hn (by decide))) (n1 a ha) (Nat.lt_of_lt_of_le ha (Nat.le_trans hn (by decide))) k2
def f_PA_init (h : ev_H) (p : Nat) : ev_H := (r_PA_init_L29 (sR (nw (sI (sI (sI h 2 p 0 0) 2 p 1 (-1)) 2 p 2 (-1)) 3) 2 p 6 (vR 3 p)) p 48)
theorem c_PA_init {E : ev_E} {P : Option ev_V ⊕ Nat → ev_H → Prop} {h : ev_H} {p : Nat} (n0 : cZ h + 1 ≤ ZM) (n1 : cN h = p) (n2 : ∀ a, a < 48 → gR (r_PA_init_L29 (sR (nw (sI (sI (sI h 2 p 0 0) 2 p 1 (-1)) 2 p 2 (-1)) 3) 2 p 6 (vR 3 p)) p a) 2 p 6 = vR 3 p) (k : P (.inl none) (f_PA_init h p)) : Ev E M_PA_init 0 [(0, vR 2 p)] [] h P := by
  refine Ev_aload_n (pc := 0) d_PA_init_0 rfl ?_
  refine Ev_objInit (pc := 1) d_PA_init_1 lk_PA_3 w_oi w_oc rfl ?_
  refine Ev_aload_n (pc := 4) d_PA_init_4 rfl ?_
  refine Ev_iconst (v := 0) (pc := 5) d_PA_init_5 (by decide) ?_
  refine Ev_putI (pc := 6) d_PA_init_6 rfl rfl rfl fl_PA_9 rfl ?_
  refine Ev_aload_n (pc := 9) d_PA_init_9 rfl ?_
  refine Ev_iconst (v := -1) (pc := 10) d_PA_init_10 (by decide) ?_
  refine Ev_putI (pc := 11) d_PA_init_11 rfl rfl rfl fl_PA_15 rfl ?_
  refine Ev_aload_n (pc := 14) d_PA_init_14 rfl ?_
  refine Ev_iconst (v := -1) (pc := 15) d_PA_init_15 (by decide) ?_
  refine Ev_putI (pc := 16) d_PA_init_16 rfl rfl rfl fl_PA_18 rfl ?_
  refine Ev_aload_n (pc := 19) d_PA_init_19 rfl ?_
  refine Ev_bipush (v := 48) (pc := 20) d_PA_init_20 (by decide) ?_
  refine Ev_newaI (k := 3) (i := p) (n := 48) (pc := 22) d_PA_init_22 rfl n1 rfl (by decide) (by decide) rfl w_ac_int (by show cZ h + 0 < ZM; omega) ?_
  refine Ev_putRF (pc := 24) d_PA_init_24 rfl rfl rfl fl_PA_21 rfl rfl rfl rfl ?_
  refine Ev_iconst (v := 0) (pc := 27) d_PA_init_27 (by decide) ?_
  refine Ev_istore_n (pc := 28) d_PA_init_28 rfl ?_
  refine lp_PA_init_L29 48 (by decide) (by decide) n2 ?_
  refine Ev_iload_n (pc := 29) d_PA_init_29 rfl ?_
  refine Ev_bipush (v := 48) (pc := 30) d_PA_init_30 (by decide) ?_
  refine Ev_icmp_ge (tgt := 48) (pc := 32) d_PA_init_32 rfl (fun _ => ?_) (fun q => absurd (lpx (by decide)) q)
  refine Ev_return (pc := 48) d_PA_init_48 rfl ?_
  rw [f_PA_init] at k
  exact k
def hp_TB_patient_45 (h : ev_H) : ev_H := sI (sR (f_PA_init (nw h 2) (cP h)) 0 2 (gI h 0 0 4).toNatClampNeg (vR 2 (cP h))) 0 0 4 ((gI (sR (f_PA_init (nw h 2) (cP h)) 0 2 (gI h 0 0 4).toNatClampNeg (vR 2 (cP h))) 0 0 4) + 1)
def f_TB_patient (h : ev_H) : (Option ev_V ⊕ Nat) × ev_H := (if (gI h 0 0 4) < 10 then (.inl (some (vI ((gI (hp_TB_patient_45 h) 0 0 4) - 1))), hp_TB_patient_45 h) else (.inr 1, nx h))
theorem c_TB_patient {E : ev_E} {P : Option ev_V ⊕ Nat → ev_H → Prop} {h : ev_H} (hR : rfs h) (hZ : cZ h < ZM) (n2 : cZ h + 2 ≤ ZM) (n3 : cN (nw h 2) = (cP h)) (n4 : ∀ b, b < 48 → gR (r_PA_init_L29 (sR (nw (sI (sI (sI (nw h 2) 2 (cP h) 0 0) 2 (cP h) 1 (-1)) 2 (cP h) 2 (-1)) 3) 2 (cP h) 6 (vR 3 (cP h))) (cP h) b) 2 (cP h) 6 = vR 3 (cP h)) (n5 : ¬ (gI h 0 0 4) < 0) (n6 : ((gI h 0 0 4) < 10) → (gI h 0 0 4).toNatClampNeg < 10) (k : P (f_TB_patient h).1 (f_TB_patient h).2) : Ev E M_TB_patient 0 [(0, vR 0 0)] [] h P := by
  refine Ev_aload_n (pc := 0) d_TB_patient_0 rfl ?_
  refine Ev_getI (pc := 1) d_TB_patient_1 rfl rfl rfl fl_TB_140 ?_
  refine Ev_bipush (v := 10) (pc := 4) d_TB_patient_4 (by decide) ?_
  refine Ev_icmp_lt (tgt := 19) (pc := 6) d_TB_patient_6 rfl (fun q1 => ?_) (fun q1 => ?_)
  · refine Ev_aload_n (pc := 19) d_TB_patient_19 rfl ?_
    refine Ev_getR (pc := 20) d_TB_patient_20 rfl rfl rfl fl_TB_17 (rf_TB_1 hR) ?_
    refine Ev_aload_n (pc := 23) d_TB_patient_23 rfl ?_
    refine Ev_getI (pc := 24) d_TB_patient_24 rfl rfl rfl fl_TB_140 ?_
    refine Ev_new (k := 2) (i := cP h) (pc := 27) d_TB_patient_27 rfl rfl rfl nw_TB_15 hZ ?_
    refine Ev_dup (pc := 30) d_TB_patient_30 rfl ?_
    refine Ev_callI (M' := M_PA_init) (as := []) (st := [vR 2 (cP h), vI (gI h 0 0 4), vR 0 2]) (a := 2) (i := (cP h)) (pc := 31) d_TB_patient_31 rfl rfl rfl rfl i_PA_init lk_TB_145 rfl rfl (c_PA_init (by show cZ h + 1 + 1 ≤ ZM; omega) n3 n4 ?_)
    refine Ev_aast (pc := 34) d_TB_patient_34 rfl rfl (Or.inr rfl) rfl rfl n5 (n6 q1) ?_
    refine Ev_aload_n (pc := 35) d_TB_patient_35 rfl ?_
    refine Ev_dup (pc := 36) d_TB_patient_36 rfl ?_
    refine Ev_getI (pc := 37) d_TB_patient_37 rfl rfl rfl fl_TB_140 ?_
    refine Ev_iconst (v := 1) (pc := 40) d_TB_patient_40 (by decide) ?_
    refine Ev_iadd (pc := 41) d_TB_patient_41 ?_
    refine Ev_putI (pc := 42) d_TB_patient_42 rfl rfl rfl fl_TB_140 rfl ?_
    show Ev E M_TB_patient 45 [(0, vR 0 0)] [] (hp_TB_patient_45 h) P
    refine Ev_aload_n (pc := 45) d_TB_patient_45 rfl ?_
    refine Ev_getI (pc := 46) d_TB_patient_46 rfl rfl rfl fl_TB_140 ?_
    refine Ev_iconst (v := 1) (pc := 49) d_TB_patient_49 (by decide) ?_
    refine Ev_isub (pc := 50) d_TB_patient_50 ?_
    refine Ev_ireturn (pc := 51) d_TB_patient_51 rfl rfl ?_
    rw [f_TB_patient, if_pos q1] at k
    exact k
  · refine Ev_throw (pc := 9) d_TB_patient_9 d_TB_patient_12 d_TB_patient_13 d_TB_patient_15 d_TB_patient_18 rfl rfl th_TB_64_143_68 rfl hZ ?_
    rw [f_TB_patient, if_neg q1] at k
    exact k
def f_RK_init (h : ev_H) : ev_H := (sR (nw (sR (nw h 0) 0 3 0 (vR 0 4)) 0) 0 3 1 (vR 0 5))
theorem c_RK_init {E : ev_E} {P : Option ev_V ⊕ Nat → ev_H → Prop} {h : ev_H} (n0 : cZ h + 2 ≤ ZM) (n1 : cF h = 4) (k : P (.inl none) (f_RK_init h)) : Ev E M_RK_init 0 [(0, vR 0 3), (1, vI 48)] [] h P := by
  refine Ev_aload_n (pc := 0) d_RK_init_0 rfl ?_
  refine Ev_objInit (pc := 1) d_RK_init_1 lk_RK_3 w_oi w_oc rfl ?_
  refine Ev_aload_n (pc := 4) d_RK_init_4 rfl ?_
  refine Ev_iload_n (pc := 5) d_RK_init_5 rfl ?_
  refine Ev_newaI (k := 0) (i := 4) (n := 48) (pc := 6) d_RK_init_6 rfl (by show cF h + 0 = 4; omega) rfl (by decide) (by decide) rfl w_ac_int (by show cZ h + 0 < ZM; omega) ?_
  refine Ev_putRF (pc := 8) d_RK_init_8 rfl rfl rfl fl_RK_9 rfl rfl rfl rfl ?_
  refine Ev_aload_n (pc := 11) d_RK_init_11 rfl ?_
  refine Ev_iload_n (pc := 12) d_RK_init_12 rfl ?_
  refine Ev_newaI (k := 0) (i := 5) (n := 48) (pc := 13) d_RK_init_13 rfl (by show cF h + 1 = 5; omega) rfl (by decide) (by decide) rfl w_ac_int (by show cZ h + 1 < ZM; omega) ?_
  refine Ev_putRF (pc := 15) d_RK_init_15 rfl rfl rfl fl_RK_15 rfl rfl rfl rfl ?_
  refine Ev_return (pc := 18) d_RK_init_18 rfl ?_
  rw [f_RK_init] at k
  exact k
def f_TB_init (h : ev_H) : ev_H := (sR (f_RK_init (nw (sR (nw (sR (nw h 0) 0 0 0 (vR 0 1)) 0) 0 0 1 (vR 0 2)) 0)) 0 0 2 (vR 0 3))
theorem c_TB_init {E : ev_E} {P : Option ev_V ⊕ Nat → ev_H → Prop} {h : ev_H} (n0 : cZ h + 5 ≤ ZM) (n1 : cF h = 1) (k : P (.inl none) (f_TB_init h)) : Ev E M_TB_init 0 [(0, vR 0 0)] [] h P := by
  refine Ev_aload_n (pc := 0) d_TB_init_0 rfl ?_
  refine Ev_objInit (pc := 1) d_TB_init_1 lk_TB_1 w_oi w_oc rfl ?_
  refine Ev_aload_n (pc := 4) d_TB_init_4 rfl ?_
  refine Ev_bipush (v := 48) (pc := 5) d_TB_init_5 (by decide) ?_
  refine Ev_anew (k := 0) (i := 1) (t := 3) (n := 48) (pc := 7) d_TB_init_7 rfl (by show cF h + 0 = 1; omega) rfl (Or.inl rfl) (by decide) (by decide) rfl cl_TB_9 w_ao_3 (by show cZ h + 0 < ZM; omega) ?_
  refine Ev_putRF (pc := 10) d_TB_init_10 rfl rfl rfl fl_TB_11 rfl rfl rfl rfl ?_
  refine Ev_aload_n (pc := 13) d_TB_init_13 rfl ?_
  refine Ev_bipush (v := 10) (pc := 14) d_TB_init_14 (by decide) ?_
  refine Ev_anew (k := 0) (i := 2) (t := 4) (n := 10) (pc := 16) d_TB_init_16 rfl (by show cF h + 1 = 2; omega) rfl (Or.inr rfl) (by decide) (by decide) rfl cl_TB_15 w_ao_4 (by show cZ h + 1 < ZM; omega) ?_
  refine Ev_putRF (pc := 19) d_TB_init_19 rfl rfl rfl fl_TB_17 rfl rfl rfl rfl ?_
  refine Ev_aload_n (pc := 22) d_TB_init_22 rfl ?_
  refine Ev_new (k := 0) (i := 3) (pc := 23) d_TB_init_23 rfl (by show cF h + 2 = 3; omega) rfl nw_TB_21 (by show cZ h + 2 < ZM; omega) ?_
  refine Ev_dup (pc := 26) d_TB_init_26 rfl ?_
  refine Ev_bipush (v := 48) (pc := 27) d_TB_init_27 (by decide) ?_
  refine Ev_callI (M' := M_RK_init) (as := [vI 48]) (st := [vR 0 3, vR 0 0]) (a := 0) (i := 3) (pc := 29) d_TB_init_29 rfl rfl rfl rfl i_RK_init lk_TB_23 rfl rfl (c_RK_init (by show cZ h + 3 + 2 ≤ ZM; omega) (by show cF h + 3 = 4; omega) ?_)
  refine Ev_putRF (pc := 32) d_TB_init_32 rfl rfl rfl fl_TB_26 rfl rfl rfl rfl ?_
  refine Ev_return (pc := 35) d_TB_init_35 rfl ?_
  rw [f_TB_init] at k
  exact k