/-! one call, from the case to the end of the case (by program) -/
theorem st_0 {E : ev_E} {P : Option ev_V ⊕ Nat → ev_H → Prop} {h : ev_H} {c t l i : Nat} {y0 y1 y2 y3 y4 y5 : Int32} (I : Inv h c t l) (hc : c < 512) (s1 : sok E (nI i + 1) y1) (s2 : sok E (nI i + 2) y2) (s3 : sok E (nI i + 3) y3) (s4 : sok E (nI i + 4) y4) (s5 : sok E (nI i + 5) y5)  (k : Kp E P i (c + 1)) : Ev E M_LW_law 172 [(0, vR 5 0), (1, vR 0 0), (2, vR 0 6), (3, vR 0 27), (4, vI (nI i))] [] h P := by
  have b48 := Inv_48 I
  have b10 := Inv_10 I
  have c3 := rd_c3 I
  have c4 := st_c4 I
  have a := pr_pass I hc (x1 := y1)
  exact c_LW_law_0 (y0 := y0) (y1 := y1) (y2 := y2) (y3 := y3) (y4 := y4) (y5 := y5)
    (n0 := s1)
    (hZ := Inv_ZM I hc)
    (n2 := by rw [c3]; omega)
    (n3 := fun b hb => by rw [ps_n _ _ _ _ _ _ (by omega), gI_ne (by omega), c3]; exact Inv_n I)
    (n4 := fun b _ => rfs_2 (h := h) (ps_2 (sI h 0 0 5 _) _ _) (Inv_R I))
    (n5 := fun b hb => (st_gR2 (ps_2 (sI h 0 0 5 _) _ _)).trans (st_g I (by rw [c3] at hb; exact hb)))
    (e1 := a.2.1)
    (e2 := a.2.2.1)
    (k := by obtain ⟨t1, l1, J⟩ := a.2.2.2; exact k _ _ _ J)
theorem st_1 {E : ev_E} {P : Option ev_V ⊕ Nat → ev_H → Prop} {h : ev_H} {c t l i : Nat} {y0 y1 y2 y3 y4 y5 : Int32} (I : Inv h c t l) (hc : c < 512) (s1 : sok E (nI i + 1) y1) (s2 : sok E (nI i + 2) y2) (s3 : sok E (nI i + 3) y3) (s4 : sok E (nI i + 4) y4) (s5 : sok E (nI i + 5) y5)  (k : Kp E P i (c + 1)) : Ev E M_LW_law 228 [(0, vR 5 0), (1, vR 0 0), (2, vR 0 6), (3, vR 0 27), (4, vI (nI i))] [] h P := by
  have b48 := Inv_48 I
  have b10 := Inv_10 I
  have c3 := rd_c3 I
  have c4 := st_c4 I
  have a := pr_unit I hc (x1 := y1) (x2 := y2) (x3 := y3) (x4 := y4) (x5 := y5)
  exact c_LW_law_1 (y0 := y0) (y1 := y1) (y2 := y2) (y3 := y3) (y4 := y4) (y5 := y5)
    (n0 := s1)
    (n1 := s2)
    (n2 := s3)
    (n3 := s4)
    (n4 := s5)
    (hZ := Inv_ZM I hc)
    (hR := Inv_R I)
    (n7 := by rw [Inv_n I]; exact nI_pos (by omega))
    (n8 := fun _ _ _ _ _ q => by have z := rm_1 I 1 (by decide) q; rw [c3]; omega)
    (n9 := a.1.2)
    (n10 := by rw [st_n2 I a.1.1]; exact nI_pos (by omega))
    (n11 := st_ru I a.1.1)
    (e1 := a.2.1)
    (e2 := a.2.2.1)
    (k := by obtain ⟨t1, l1, J⟩ := a.2.2.2; exact k _ _ _ J)
theorem st_2_1 {E : ev_E} {P : Option ev_V ⊕ Nat → ev_H → Prop} {h : ev_H} {c t l i : Nat} {y0 y1 y2 y3 y4 y5 : Int32} (I : Inv h c t l) (hc : c < 512) (s1 : sok E (nI i + 1) y1) (s2 : sok E (nI i + 2) y2) (s3 : sok E (nI i + 3) y3) (s4 : sok E (nI i + 4) y4) (s5 : sok E (nI i + 5) y5) (v0 : ¬ f_TB_isBelow y1 (gI h 0 0 3) = 0) (k : Kp E P i (c + 1)) : Ev E M_LW_law 332 [(0, vR 5 0), (1, vR 0 0), (2, vR 0 6), (3, vR 0 27), (4, vI (nI i))] [] h P := by
  have b48 := Inv_48 I
  have b10 := Inv_10 I
  have c3 := rd_c3 I
  have c4 := st_c4 I
  obtain ⟨u1, i1, rfl⟩ := isB_ex (n := cU h) (x := y1) (by omega) (by rw [← Inv_n I]; exact v0)
  have a := pr_antigen_1 I hc (x2 := y2) (x3 := y3) i1
  exact c_LW_law_2_1 (y0 := y0) (y1 := nI u1) (y2 := y2) (y3 := y3) (y4 := y4) (y5 := y5)
    (n0 := s1)
    (n1 := s2)
    (n2 := s3)
    (hU := Inv_uok I)
    (hR := Inv_R I)
    (hZ := Inv_ZM I hc)
    (n6 := st_u1 I a.1.1 i1)
    (n7 := a.1.2)
    (n8 := nI_pos (by omega))
    (n9 := by rw [nI_clamp (by omega)]; omega)
    (e1 := a.2.1)
    (k := by obtain ⟨t1, l1, J⟩ := a.2.2; exact k _ _ _ J)
theorem st_2_0 {E : ev_E} {P : Option ev_V ⊕ Nat → ev_H → Prop} {h : ev_H} {c t l i : Nat} {y0 y1 y2 y3 y4 y5 : Int32} (I : Inv h c t l) (hc : c < 512) (s1 : sok E (nI i + 1) y1) (s2 : sok E (nI i + 2) y2) (s3 : sok E (nI i + 3) y3) (s4 : sok E (nI i + 4) y4) (s5 : sok E (nI i + 5) y5) (v0 : f_TB_isBelow y1 (gI h 0 0 3) = 0) (k : Kp E P i (c + 1)) : Ev E M_LW_law 332 [(0, vR 5 0), (1, vR 0 0), (2, vR 0 6), (3, vR 0 27), (4, vI (nI i))] [] h P := by
  have b48 := Inv_48 I
  have b10 := Inv_10 I
  have c3 := rd_c3 I
  have c4 := st_c4 I
  have a := pr_antigen_0 I hc (x1 := y1) (x2 := y2) (x3 := y3) v0
  exact c_LW_law_2_0 (y0 := y0) (y1 := y1) (y2 := y2) (y3 := y3) (y4 := y4) (y5 := y5)
    (n0 := s1)
    (n1 := s2)
    (n2 := s3)
    (hU := Inv_uok I)
    (hR := Inv_R I)
    (hZ := Inv_ZM I hc)
    (n6 := ((ag_unit I a.1.1 _).trans v0))
    (e1 := a.2.1)
    (k := by obtain ⟨t1, l1, J⟩ := a.2.2; exact k _ _ _ J)
theorem st_3_1 {E : ev_E} {P : Option ev_V ⊕ Nat → ev_H → Prop} {h : ev_H} {c t l i : Nat} {y0 y1 y2 y3 y4 y5 : Int32} (I : Inv h c t l) (hc : c < 512) (s1 : sok E (nI i + 1) y1) (s2 : sok E (nI i + 2) y2) (s3 : sok E (nI i + 3) y3) (s4 : sok E (nI i + 4) y4) (s5 : sok E (nI i + 5) y5) (v0 : ¬ f_TB_isBelow y1 (gI h 0 0 3) = 0) (k : Kp E P i (c + 1)) : Ev E M_LW_law 392 [(0, vR 5 0), (1, vR 0 0), (2, vR 0 6), (3, vR 0 27), (4, vI (nI i))] [] h P := by
  have b48 := Inv_48 I
  have b10 := Inv_10 I
  have c3 := rd_c3 I
  have c4 := st_c4 I
  obtain ⟨u1, i1, rfl⟩ := isB_ex (n := cU h) (x := y1) (by omega) (by rw [← Inv_n I]; exact v0)
  have a := pr_process_1 I hc (x2 := y2) i1
  exact c_LW_law_3_1 (y0 := y0) (y1 := nI u1) (y2 := y2) (y3 := y3) (y4 := y4) (y5 := y5)
    (n0 := s1)
    (n1 := s2)
    (hU := Inv_uok I)
    (hR := Inv_R I)
    (hZ := Inv_ZM I hc)
    (n5 := by simp only [cZ_sI]; exact Inv_ZM I hc)
    (n6 := by rw [Inv_n I]; exact nI_pos (by omega))
    (n7 := fun _ _ _ q _ w => by rw [m_TB_process_42, if_neg w] at q; have z := rm_1 I 1 (by decide) q; rw [c3]; omega)
    (n8 := fun _ _ _ q _ w => by rw [m_TB_process_42, if_pos w] at q; have z := rm_1 I 3 (by decide) q; rw [c3]; omega)
    (n9 := by have z := Inv_Z I; have y : ZM = 4096 := rfl; simp only [kp_Z, cZ_sI]; omega)
    (n10 := by rw [st_k1 I]; exact nI_pos (by omega))
    (n11 := fun _ _ _ q _ w => by rw [m_TB_process_42, if_pos w] at q; have z := rm_1 I 3 (by decide) q; rw [st_k1 I, nI_clamp (by omega)]; omega)
    (n12 := by have z := Inv_Z I; have y : ZM = 4096 := rfl; simp only [kp_Z, cZ_sI]; omega)
    (n13 := by rw [st_k2 I]; exact nI_pos (by omega))
    (n14 := fun _ _ _ q _ w => by rw [m_TB_process_42, if_pos w] at q; have z := rm_1 I 3 (by decide) q; rw [st_k2 I, nI_clamp (by omega)]; omega)
    (n15 := st_u1 I a.1.1 i1)
    (n16 := a.1.2)
    (n17 := nI_pos (by omega))
    (n18 := by rw [nI_clamp (by omega)]; omega)
    (n19 := by rw [st_n2 I a.1.1]; exact nI_pos (by omega))
    (n20 := fun q _ _ _ => by have z := (st_rq I a.1.1 q).2; rw [rd_c2 I a.1.1]; omega)
    (n21 := fun q _ _ _ => by have z := (st_rq I a.1.1 q).2; rw [rd_c2 I a.1.1]; omega)
    (n22 := fun q _ _ _ => by have z := (st_rq I a.1.1 q).2; rw [rd_c2 I a.1.1]; omega)
    (n23 := fun q _ _ _ => by have z := (st_rq I a.1.1 q).2; rw [rd_c2 I a.1.1]; omega)
    (n24 := fun q w => by have z := (st_rq I a.1.1 q).1 w; rw [rd_c2 I a.1.1]; omega)
    (n25 := by rw [st_a1 I a.1.1]; exact nI_pos (by omega))
    (n26 := fun q w => by have z := (st_rq I a.1.1 q).1 w; rw [st_a1 I a.1.1, nI_clamp (by omega)]; omega)
    (n27 := by rw [st_a2 I a.1.1]; exact nI_pos (by omega))
    (n28 := fun q w => by have z := (st_rq I a.1.1 q).1 w; rw [st_a2 I a.1.1, nI_clamp (by omega)]; omega)
    (e1 := a.2.1)
    (e2 := a.2.2.1)
    (k := by obtain ⟨t1, l1, J⟩ := a.2.2.2; exact k _ _ _ J)
theorem st_3_0 {E : ev_E} {P : Option ev_V ⊕ Nat → ev_H → Prop} {h : ev_H} {c t l i : Nat} {y0 y1 y2 y3 y4 y5 : Int32} (I : Inv h c t l) (hc : c < 512) (s1 : sok E (nI i + 1) y1) (s2 : sok E (nI i + 2) y2) (s3 : sok E (nI i + 3) y3) (s4 : sok E (nI i + 4) y4) (s5 : sok E (nI i + 5) y5) (v0 : f_TB_isBelow y1 (gI h 0 0 3) = 0) (k : Kp E P i (c + 1)) : Ev E M_LW_law 392 [(0, vR 5 0), (1, vR 0 0), (2, vR 0 6), (3, vR 0 27), (4, vI (nI i))] [] h P := by
  have b48 := Inv_48 I
  have b10 := Inv_10 I
  have c3 := rd_c3 I
  have c4 := st_c4 I
  have a := pr_process_0 I hc (x1 := y1) (x2 := y2) v0
  exact c_LW_law_3_0 (y0 := y0) (y1 := y1) (y2 := y2) (y3 := y3) (y4 := y4) (y5 := y5)
    (n0 := s1)
    (n1 := s2)
    (hU := Inv_uok I)
    (hR := Inv_R I)
    (hZ := Inv_ZM I hc)
    (n5 := by simp only [cZ_sI]; exact Inv_ZM I hc)
    (n6 := by rw [Inv_n I]; exact nI_pos (by omega))
    (n7 := fun _ _ _ q _ w => by rw [m_TB_process_42, if_neg w] at q; have z := rm_1 I 1 (by decide) q; rw [c3]; omega)
    (n8 := fun _ _ _ q _ w => by rw [m_TB_process_42, if_pos w] at q; have z := rm_1 I 3 (by decide) q; rw [c3]; omega)
    (n9 := by have z := Inv_Z I; have y : ZM = 4096 := rfl; simp only [kp_Z, cZ_sI]; omega)
    (n10 := by rw [st_k1 I]; exact nI_pos (by omega))
    (n11 := fun _ _ _ q _ w => by rw [m_TB_process_42, if_pos w] at q; have z := rm_1 I 3 (by decide) q; rw [st_k1 I, nI_clamp (by omega)]; omega)
    (n12 := by have z := Inv_Z I; have y : ZM = 4096 := rfl; simp only [kp_Z, cZ_sI]; omega)
    (n13 := by rw [st_k2 I]; exact nI_pos (by omega))
    (n14 := fun _ _ _ q _ w => by rw [m_TB_process_42, if_pos w] at q; have z := rm_1 I 3 (by decide) q; rw [st_k2 I, nI_clamp (by omega)]; omega)
    (n15 := ((ag_unit I a.1.1 _).trans v0))
    (e1 := a.2.1)
    (e2 := a.2.2.1)
    (k := by obtain ⟨t1, l1, J⟩ := a.2.2.2; exact k _ _ _ J)
theorem st_4_11 {E : ev_E} {P : Option ev_V ⊕ Nat → ev_H → Prop} {h : ev_H} {c t l i : Nat} {y0 y1 y2 y3 y4 y5 : Int32} (I : Inv h c t l) (hc : c < 512) (s1 : sok E (nI i + 1) y1) (s2 : sok E (nI i + 2) y2) (s3 : sok E (nI i + 3) y3) (s4 : sok E (nI i + 4) y4) (s5 : sok E (nI i + 5) y5) (v0 : ¬ f_TB_isBelow y1 (gI h 0 0 3) = 0) (v1 : ¬ f_TB_isBelow y2 (gI h 0 0 3) = 0) (k : Kp E P i (c + 1)) : Ev E M_LW_law 460 [(0, vR 5 0), (1, vR 0 0), (2, vR 0 6), (3, vR 0 27), (4, vI (nI i))] [] h P := by
  have b48 := Inv_48 I
  have b10 := Inv_10 I
  have c3 := rd_c3 I
  have c4 := st_c4 I
  obtain ⟨u1, i1, rfl⟩ := isB_ex (n := cU h) (x := y1) (by omega) (by rw [← Inv_n I]; exact v0)
  obtain ⟨u2, i2, rfl⟩ := isB_ex (n := cU h) (x := y2) (by omega) (by rw [← Inv_n I]; exact v1)
  have a := pr_pool_11 I hc  i1 i2
  exact c_LW_law_4_11 (y0 := y0) (y1 := nI u1) (y2 := nI u2) (y3 := y3) (y4 := y4) (y5 := y5)
    (n0 := s1)
    (n1 := s2)
    (hU := Inv_uok I)
    (hR := Inv_R I)
    (hZ := Inv_ZM I hc)
    (n5 := by simp only [cZ_sI]; exact Inv_ZM I hc)
    (n6 := by rw [Inv_n I]; exact nI_pos (by omega))
    (n7 := fun _ _ _ _ _ q _ _ _ _ => by have z := rm_1 I 1 (by decide) q; rw [c3]; omega)
    (n8 := st_u1 I a.1.1 i1)
    (n9 := st_u1 I a.1.1 i2)
    (n10 := a.1.2)
    (n11 := nI_pos (by omega))
    (n12 := by rw [nI_clamp (by omega)]; omega)
    (n13 := by rw [st_n2 I a.1.1]; exact nI_pos (by omega))
    (n14 := fun q => by have z := st_rp I a.1.1 q; rw [rd_c2 I a.1.1]; exact z)
    (n15 := nI_pos (by omega))
    (n16 := by rw [nI_clamp (by omega)]; omega)
    (n17 := by show ¬ gI _ 0 6 2 < 0; rw [st_n2 I a.1.1]; exact nI_pos (by omega))
    (n18 := fun q => by have z := st_rp I a.1.1 q; show (gI _ 0 6 2).toNatClampNeg < 48; rw [rd_c2 I a.1.1]; exact z)
    (e1 := a.2.1)
    (e2 := a.2.2.1)
    (k := by obtain ⟨t1, l1, J⟩ := a.2.2.2; exact k _ _ _ J)
theorem st_4_10 {E : ev_E} {P : Option ev_V ⊕ Nat → ev_H → Prop} {h : ev_H} {c t l i : Nat} {y0 y1 y2 y3 y4 y5 : Int32} (I : Inv h c t l) (hc : c < 512) (s1 : sok E (nI i + 1) y1) (s2 : sok E (nI i + 2) y2) (s3 : sok E (nI i + 3) y3) (s4 : sok E (nI i + 4) y4) (s5 : sok E (nI i + 5) y5) (v0 : ¬ f_TB_isBelow y1 (gI h 0 0 3) = 0) (v1 : f_TB_isBelow y2 (gI h 0 0 3) = 0) (k : Kp E P i (c + 1)) : Ev E M_LW_law 460 [(0, vR 5 0), (1, vR 0 0), (2, vR 0 6), (3, vR 0 27), (4, vI (nI i))] [] h P := by
  have b48 := Inv_48 I
  have b10 := Inv_10 I
  have c3 := rd_c3 I
  have c4 := st_c4 I
  obtain ⟨u1, i1, e1⟩ := isB_ex (n := cU h) (x := y1) (by omega) (by rw [← Inv_n I]; exact v0)
  have a := pr_pool_10 I hc (x1 := y1) (x2 := y2) v0 v1
  exact c_LW_law_4_10 (y0 := y0) (y1 := y1) (y2 := y2) (y3 := y3) (y4 := y4) (y5 := y5)
    (n0 := s1)
    (n1 := s2)
    (hU := Inv_uok I)
    (hR := Inv_R I)
    (hZ := Inv_ZM I hc)
    (n5 := by simp only [cZ_sI]; exact Inv_ZM I hc)
    (n6 := by rw [Inv_n I]; exact nI_pos (by omega))
    (n7 := fun _ _ _ _ _ q _ _ _ _ => by have z := rm_1 I 1 (by decide) q; rw [c3]; omega)
    (n8 := by rw [e1] at a ⊢; exact st_u1 I a.1.1 i1)
    (n9 := ((ag_unit I a.1.1 _).trans v1))
    (e1 := a.2.1)
    (e2 := a.2.2.1)
    (k := by obtain ⟨t1, l1, J⟩ := a.2.2.2; exact k _ _ _ J)
theorem st_4_0 {E : ev_E} {P : Option ev_V ⊕ Nat → ev_H → Prop} {h : ev_H} {c t l i : Nat} {y0 y1 y2 y3 y4 y5 : Int32} (I : Inv h c t l) (hc : c < 512) (s1 : sok E (nI i + 1) y1) (s2 : sok E (nI i + 2) y2) (s3 : sok E (nI i + 3) y3) (s4 : sok E (nI i + 4) y4) (s5 : sok E (nI i + 5) y5) (v0 : f_TB_isBelow y1 (gI h 0 0 3) = 0) (k : Kp E P i (c + 1)) : Ev E M_LW_law 460 [(0, vR 5 0), (1, vR 0 0), (2, vR 0 6), (3, vR 0 27), (4, vI (nI i))] [] h P := by
  have b48 := Inv_48 I
  have b10 := Inv_10 I
  have c3 := rd_c3 I
  have c4 := st_c4 I
  have a := pr_pool_0 I hc (x1 := y1) (x2 := y2) v0
  exact c_LW_law_4_0 (y0 := y0) (y1 := y1) (y2 := y2) (y3 := y3) (y4 := y4) (y5 := y5)
    (n0 := s1)
    (n1 := s2)
    (hU := Inv_uok I)
    (hR := Inv_R I)
    (hZ := Inv_ZM I hc)
    (n5 := by simp only [cZ_sI]; exact Inv_ZM I hc)
    (n6 := by rw [Inv_n I]; exact nI_pos (by omega))
    (n7 := fun _ _ _ _ _ q _ _ _ _ => by have z := rm_1 I 1 (by decide) q; rw [c3]; omega)
    (n8 := ((ag_unit I a.1.1 _).trans v0))
    (e1 := a.2.1)
    (e2 := a.2.2.1)
    (k := by obtain ⟨t1, l1, J⟩ := a.2.2.2; exact k _ _ _ J)
theorem st_5 {E : ev_E} {P : Option ev_V ⊕ Nat → ev_H → Prop} {h : ev_H} {c t l i : Nat} {y0 y1 y2 y3 y4 y5 : Int32} (I : Inv h c t l) (hc : c < 512) (s1 : sok E (nI i + 1) y1) (s2 : sok E (nI i + 2) y2) (s3 : sok E (nI i + 3) y3) (s4 : sok E (nI i + 4) y4) (s5 : sok E (nI i + 5) y5)  (k : Kp E P i (c + 1)) : Ev E M_LW_law 528 [(0, vR 5 0), (1, vR 0 0), (2, vR 0 6), (3, vR 0 27), (4, vI (nI i))] [] h P := by
  have b48 := Inv_48 I
  have b10 := Inv_10 I
  have c3 := rd_c3 I
  have c4 := st_c4 I
  have a := pr_patient I hc 
  exact c_LW_law_5 (y0 := y0) (y1 := y1) (y2 := y2) (y3 := y3) (y4 := y4) (y5 := y5)
    (hR := Inv_R I)
    (hZ := Inv_ZM I hc)
    (n2 := by have z := Inv_Z I; have y : ZM = 4096 := rfl; omega)
    (n3 := I.1.1.2.2.1)
    (n4 := fun b _ => (st_gR2 (pi_2 _ _ _)).trans (gR_eq ⟨rfl, rfl, rfl⟩))
    (n5 := by rw [Inv_m I]; exact nI_pos (by omega))
    (n6 := fun q => by rw [Inv_m I, show (10 : Int32) = nI 10 by decide, nI_ltI (by omega) (by omega)] at q; rw [c4]; exact q)
    (n7 := a.1.2)
    (n8 := by rw [st_m2 I a.1.1]; exact nI_pos (by omega))
    (n9 := st_rt I a.1.1)
    (e1 := a.2.1)
    (e2 := a.2.2.1)
    (k := by obtain ⟨t1, l1, J⟩ := a.2.2.2; exact k _ _ _ J)
theorem st_6_1 {E : ev_E} {P : Option ev_V ⊕ Nat → ev_H → Prop} {h : ev_H} {c t l i : Nat} {y0 y1 y2 y3 y4 y5 : Int32} (I : Inv h c t l) (hc : c < 512) (s1 : sok E (nI i + 1) y1) (s2 : sok E (nI i + 2) y2) (s3 : sok E (nI i + 3) y3) (s4 : sok E (nI i + 4) y4) (s5 : sok E (nI i + 5) y5) (v0 : ¬ f_TB_isBelow y1 (gI h 0 0 4) = 0) (k : Kp E P i (c + 1)) : Ev E M_LW_law 572 [(0, vR 5 0), (1, vR 0 0), (2, vR 0 6), (3, vR 0 27), (4, vI (nI i))] [] h P := by
  have b48 := Inv_48 I
  have b10 := Inv_10 I
  have c3 := rd_c3 I
  have c4 := st_c4 I
  obtain ⟨u1, i1, rfl⟩ := isB_ex (n := cP h) (x := y1) (by omega) (by rw [← Inv_m I]; exact v0)
  have a := pr_sample_1 I hc (x2 := y2) (x3 := y3) i1
  exact c_LW_law_6_1 (y0 := y0) (y1 := nI u1) (y2 := y2) (y3 := y3) (y4 := y4) (y5 := y5)
    (n0 := s1)
    (n1 := s2)
    (n2 := s3)
    (hP := Inv_pok I)
    (hR := Inv_R I)
    (hZ := Inv_ZM I hc)
    (n6 := st_p1 I a.1.1 i1)
    (n7 := a.1.2)
    (n8 := nI_pos (by omega))
    (n9 := by rw [nI_clamp (by omega)]; omega)
    (e1 := a.2.1)
    (e2 := a.2.2.1)
    (k := by obtain ⟨t1, l1, J⟩ := a.2.2.2; exact k _ _ _ J)
theorem st_6_0 {E : ev_E} {P : Option ev_V ⊕ Nat → ev_H → Prop} {h : ev_H} {c t l i : Nat} {y0 y1 y2 y3 y4 y5 : Int32} (I : Inv h c t l) (hc : c < 512) (s1 : sok E (nI i + 1) y1) (s2 : sok E (nI i + 2) y2) (s3 : sok E (nI i + 3) y3) (s4 : sok E (nI i + 4) y4) (s5 : sok E (nI i + 5) y5) (v0 : f_TB_isBelow y1 (gI h 0 0 4) = 0) (k : Kp E P i (c + 1)) : Ev E M_LW_law 572 [(0, vR 5 0), (1, vR 0 0), (2, vR 0 6), (3, vR 0 27), (4, vI (nI i))] [] h P := by
  have b48 := Inv_48 I
  have b10 := Inv_10 I
  have c3 := rd_c3 I
  have c4 := st_c4 I
  have a := pr_sample_0 I hc (x1 := y1) (x2 := y2) (x3 := y3) v0
  exact c_LW_law_6_0 (y0 := y0) (y1 := y1) (y2 := y2) (y3 := y3) (y4 := y4) (y5 := y5)
    (n0 := s1)
    (n1 := s2)
    (n2 := s3)
    (hP := Inv_pok I)
    (hR := Inv_R I)
    (hZ := Inv_ZM I hc)
    (n6 := ((ag_pat I a.1.1 _).trans v0))
    (e1 := a.2.1)
    (e2 := a.2.2.1)
    (k := by obtain ⟨t1, l1, J⟩ := a.2.2.2; exact k _ _ _ J)
theorem st_7_1 {E : ev_E} {P : Option ev_V ⊕ Nat → ev_H → Prop} {h : ev_H} {c t l i : Nat} {y0 y1 y2 y3 y4 y5 : Int32} (I : Inv h c t l) (hc : c < 512) (s1 : sok E (nI i + 1) y1) (s2 : sok E (nI i + 2) y2) (s3 : sok E (nI i + 3) y3) (s4 : sok E (nI i + 4) y4) (s5 : sok E (nI i + 5) y5) (v0 : ¬ f_TB_isBelow y1 (gI h 0 0 4) = 0) (k : Kp E P i (c + 1)) : Ev E M_LW_law 652 [(0, vR 5 0), (1, vR 0 0), (2, vR 0 6), (3, vR 0 27), (4, vI (nI i))] [] h P := by
  have b48 := Inv_48 I
  have b10 := Inv_10 I
  have c3 := rd_c3 I
  have c4 := st_c4 I
  obtain ⟨u1, i1, rfl⟩ := isB_ex (n := cP h) (x := y1) (by omega) (by rw [← Inv_m I]; exact v0)
  have a := pr_unlock_1 I hc (x2 := y2) (x3 := y3) i1
  exact c_LW_law_7_1 (y0 := y0) (y1 := nI u1) (y2 := y2) (y3 := y3) (y4 := y4) (y5 := y5)
    (n0 := s1)
    (n1 := s2)
    (n2 := s3)
    (hP := Inv_pok I)
    (hR := Inv_R I)
    (hZ := Inv_ZM I hc)
    (n6 := st_p1 I a.1.1 i1)
    (n7 := a.1.2)
    (n8 := nI_pos (by omega))
    (n9 := by rw [nI_clamp (by omega)]; omega)
    (e1 := a.2.1)
    (k := by obtain ⟨t1, l1, J⟩ := a.2.2; exact k _ _ _ J)
theorem st_7_0 {E : ev_E} {P : Option ev_V ⊕ Nat → ev_H → Prop} {h : ev_H} {c t l i : Nat} {y0 y1 y2 y3 y4 y5 : Int32} (I : Inv h c t l) (hc : c < 512) (s1 : sok E (nI i + 1) y1) (s2 : sok E (nI i + 2) y2) (s3 : sok E (nI i + 3) y3) (s4 : sok E (nI i + 4) y4) (s5 : sok E (nI i + 5) y5) (v0 : f_TB_isBelow y1 (gI h 0 0 4) = 0) (k : Kp E P i (c + 1)) : Ev E M_LW_law 652 [(0, vR 5 0), (1, vR 0 0), (2, vR 0 6), (3, vR 0 27), (4, vI (nI i))] [] h P := by
  have b48 := Inv_48 I
  have b10 := Inv_10 I
  have c3 := rd_c3 I
  have c4 := st_c4 I
  have a := pr_unlock_0 I hc (x1 := y1) (x2 := y2) (x3 := y3) v0
  exact c_LW_law_7_0 (y0 := y0) (y1 := y1) (y2 := y2) (y3 := y3) (y4 := y4) (y5 := y5)
    (n0 := s1)
    (n1 := s2)
    (n2 := s3)
    (hP := Inv_pok I)
    (hR := Inv_R I)
    (hZ := Inv_ZM I hc)
    (n6 := ((ag_pat I a.1.1 _).trans v0))
    (e1 := a.2.1)
    (k := by obtain ⟨t1, l1, J⟩ := a.2.2; exact k _ _ _ J)
theorem st_8_1 {E : ev_E} {P : Option ev_V ⊕ Nat → ev_H → Prop} {h : ev_H} {c t l i : Nat} {y0 y1 y2 y3 y4 y5 : Int32} (I : Inv h c t l) (hc : c < 512) (s1 : sok E (nI i + 1) y1) (s2 : sok E (nI i + 2) y2) (s3 : sok E (nI i + 3) y3) (s4 : sok E (nI i + 4) y4) (s5 : sok E (nI i + 5) y5) (v0 : ¬ f_TB_isBelow y1 (gI h 0 0 4) = 0) (k : Kp E P i (c + 1)) : Ev E M_LW_law 712 [(0, vR 5 0), (1, vR 0 0), (2, vR 0 6), (3, vR 0 27), (4, vI (nI i))] [] h P := by
  have b48 := Inv_48 I
  have b10 := Inv_10 I
  have c3 := rd_c3 I
  have c4 := st_c4 I
  obtain ⟨u1, i1, rfl⟩ := isB_ex (n := cP h) (x := y1) (by omega) (by rw [← Inv_m I]; exact v0)
  have a := pr_antibody_1 I hc (x2 := y2) i1
  exact c_LW_law_8_1 (y0 := y0) (y1 := nI u1) (y2 := y2) (y3 := y3) (y4 := y4) (y5 := y5)
    (n0 := s1)
    (n1 := s2)
    (hP := Inv_pok I)
    (hR := Inv_R I)
    (hZ := Inv_ZM I hc)
    (n5 := st_p1 I a.1.1 i1)
    (n6 := a.1.2)
    (n7 := nI_pos (by omega))
    (n8 := by rw [nI_clamp (by omega)]; omega)
    (e1 := a.2.1)
    (e2 := a.2.2.1)
    (k := by obtain ⟨t1, l1, J⟩ := a.2.2.2; exact k _ _ _ J)
theorem st_8_0 {E : ev_E} {P : Option ev_V ⊕ Nat → ev_H → Prop} {h : ev_H} {c t l i : Nat} {y0 y1 y2 y3 y4 y5 : Int32} (I : Inv h c t l) (hc : c < 512) (s1 : sok E (nI i + 1) y1) (s2 : sok E (nI i + 2) y2) (s3 : sok E (nI i + 3) y3) (s4 : sok E (nI i + 4) y4) (s5 : sok E (nI i + 5) y5) (v0 : f_TB_isBelow y1 (gI h 0 0 4) = 0) (k : Kp E P i (c + 1)) : Ev E M_LW_law 712 [(0, vR 5 0), (1, vR 0 0), (2, vR 0 6), (3, vR 0 27), (4, vI (nI i))] [] h P := by
  have b48 := Inv_48 I
  have b10 := Inv_10 I
  have c3 := rd_c3 I
  have c4 := st_c4 I
  have a := pr_antibody_0 I hc (x1 := y1) (x2 := y2) v0
  exact c_LW_law_8_0 (y0 := y0) (y1 := y1) (y2 := y2) (y3 := y3) (y4 := y4) (y5 := y5)
    (n0 := s1)
    (n1 := s2)
    (hP := Inv_pok I)
    (hR := Inv_R I)
    (hZ := Inv_ZM I hc)
    (n5 := ((ag_pat I a.1.1 _).trans v0))
    (e1 := a.2.1)
    (e2 := a.2.2.1)
    (k := by obtain ⟨t1, l1, J⟩ := a.2.2.2; exact k _ _ _ J)
theorem st_9_1 {E : ev_E} {P : Option ev_V ⊕ Nat → ev_H → Prop} {h : ev_H} {c t l i : Nat} {y0 y1 y2 y3 y4 y5 : Int32} (I : Inv h c t l) (hc : c < 512) (s1 : sok E (nI i + 1) y1) (s2 : sok E (nI i + 2) y2) (s3 : sok E (nI i + 3) y3) (s4 : sok E (nI i + 4) y4) (s5 : sok E (nI i + 5) y5) (v0 : ¬ f_TB_isBelow y1 (gI h 0 0 4) = 0) (k : Kp E P i (c + 1)) : Ev E M_LW_law 780 [(0, vR 5 0), (1, vR 0 0), (2, vR 0 6), (3, vR 0 27), (4, vI (nI i))] [] h P := by
  have b48 := Inv_48 I
  have b10 := Inv_10 I
  have c3 := rd_c3 I
  have c4 := st_c4 I
  obtain ⟨u1, i1, rfl⟩ := isB_ex (n := cP h) (x := y1) (by omega) (by rw [← Inv_m I]; exact v0)
  have a := pr_need_1 I hc (x2 := y2) i1
  exact c_LW_law_9_1 (y0 := y0) (y1 := nI u1) (y2 := y2) (y3 := y3) (y4 := y4) (y5 := y5)
    (n0 := s1)
    (n1 := s2)
    (hP := Inv_pok I)
    (hR := Inv_R I)
    (hZ := Inv_ZM I hc)
    (n5 := st_p1 I a.1.1 i1)
    (n6 := a.1.2)
    (n7 := nI_pos (by omega))
    (n8 := by rw [nI_clamp (by omega)]; omega)
    (e1 := a.2.1)
    (e2 := a.2.2.1)
    (k := by obtain ⟨t1, l1, J⟩ := a.2.2.2; exact k _ _ _ J)
theorem st_9_0 {E : ev_E} {P : Option ev_V ⊕ Nat → ev_H → Prop} {h : ev_H} {c t l i : Nat} {y0 y1 y2 y3 y4 y5 : Int32} (I : Inv h c t l) (hc : c < 512) (s1 : sok E (nI i + 1) y1) (s2 : sok E (nI i + 2) y2) (s3 : sok E (nI i + 3) y3) (s4 : sok E (nI i + 4) y4) (s5 : sok E (nI i + 5) y5) (v0 : f_TB_isBelow y1 (gI h 0 0 4) = 0) (k : Kp E P i (c + 1)) : Ev E M_LW_law 780 [(0, vR 5 0), (1, vR 0 0), (2, vR 0 6), (3, vR 0 27), (4, vI (nI i))] [] h P := by
  have b48 := Inv_48 I
  have b10 := Inv_10 I
  have c3 := rd_c3 I
  have c4 := st_c4 I
  have a := pr_need_0 I hc (x1 := y1) (x2 := y2) v0
  exact c_LW_law_9_0 (y0 := y0) (y1 := y1) (y2 := y2) (y3 := y3) (y4 := y4) (y5 := y5)
    (n0 := s1)
    (n1 := s2)
    (hP := Inv_pok I)
    (hR := Inv_R I)
    (hZ := Inv_ZM I hc)
    (n5 := ((ag_pat I a.1.1 _).trans v0))
    (e1 := a.2.1)
    (e2 := a.2.2.1)
    (k := by obtain ⟨t1, l1, J⟩ := a.2.2.2; exact k _ _ _ J)
theorem st_10_11 {E : ev_E} {P : Option ev_V ⊕ Nat → ev_H → Prop} {h : ev_H} {c t l i : Nat} {y0 y1 y2 y3 y4 y5 : Int32} (I : Inv h c t l) (hc : c < 512) (s1 : sok E (nI i + 1) y1) (s2 : sok E (nI i + 2) y2) (s3 : sok E (nI i + 3) y3) (s4 : sok E (nI i + 4) y4) (s5 : sok E (nI i + 5) y5) (v0 : ¬ f_TB_isBelow y1 (gI h 0 0 4) = 0) (v1 : ¬ f_TB_isBelow y2 (gI h 0 0 3) = 0) (k : Kp E P i (c + 1)) : Ev E M_LW_law 848 [(0, vR 5 0), (1, vR 0 0), (2, vR 0 6), (3, vR 0 27), (4, vI (nI i))] [] h P := by
  have b48 := Inv_48 I
  have b10 := Inv_10 I
  have c3 := rd_c3 I
  have c4 := st_c4 I
  obtain ⟨u1, i1, rfl⟩ := isB_ex (n := cP h) (x := y1) (by omega) (by rw [← Inv_m I]; exact v0)
  obtain ⟨u2, i2, rfl⟩ := isB_ex (n := cU h) (x := y2) (by omega) (by rw [← Inv_n I]; exact v1)
  have a := pr_crossmatch_11 I hc (x3 := m_LW_law_10_11_875 i y0 (nI u1) (nI u2) y3 y4 y5) i1 i2
  exact c_LW_law_10_11 (y0 := y0) (y1 := nI u1) (y2 := nI u2) (y3 := y3) (y4 := y4) (y5 := y5)
    (n0 := s1)
    (n1 := s2)
    (n2 := s3)
    (hP := Inv_pok I)
    (hR := Inv_R I)
    (hZ := Inv_ZM I hc)
    (hU := Inv_uok I)
    (n7 := st_p1 I a.1.1 i1)
    (n8 := st_u1 I a.1.1 i2)
    (n9 := a.1.2)
    (n10 := nI_pos (by omega))
    (n11 := by rw [nI_clamp (by omega)]; omega)
    (n12 := by rw [st_cx]; exact nI_pos (by omega))
    (n13 := by rw [st_cx, nI_clamp (by omega)]; omega)
    (n14 := a.2.1)
    (k := by obtain ⟨t1, l1, J⟩ := a.2.2; exact k _ _ _ J)
theorem st_10_10 {E : ev_E} {P : Option ev_V ⊕ Nat → ev_H → Prop} {h : ev_H} {c t l i : Nat} {y0 y1 y2 y3 y4 y5 : Int32} (I : Inv h c t l) (hc : c < 512) (s1 : sok E (nI i + 1) y1) (s2 : sok E (nI i + 2) y2) (s3 : sok E (nI i + 3) y3) (s4 : sok E (nI i + 4) y4) (s5 : sok E (nI i + 5) y5) (v0 : ¬ f_TB_isBelow y1 (gI h 0 0 4) = 0) (v1 : f_TB_isBelow y2 (gI h 0 0 3) = 0) (k : Kp E P i (c + 1)) : Ev E M_LW_law 848 [(0, vR 5 0), (1, vR 0 0), (2, vR 0 6), (3, vR 0 27), (4, vI (nI i))] [] h P := by
  have b48 := Inv_48 I
  have b10 := Inv_10 I
  have c3 := rd_c3 I
  have c4 := st_c4 I
  obtain ⟨u1, i1, e1⟩ := isB_ex (n := cP h) (x := y1) (by omega) (by rw [← Inv_m I]; exact v0)
  have a := pr_crossmatch_10 I hc (x1 := y1) (x2 := y2) (x3 := m_LW_law_10_10_875 i y0 y1 y2 y3 y4 y5) v0 v1
  exact c_LW_law_10_10 (y0 := y0) (y1 := y1) (y2 := y2) (y3 := y3) (y4 := y4) (y5 := y5)
    (n0 := s1)
    (n1 := s2)
    (n2 := s3)
    (hP := Inv_pok I)
    (hR := Inv_R I)
    (hZ := Inv_ZM I hc)
    (hU := Inv_uok I)
    (n7 := by rw [e1] at a ⊢; exact st_p1 I a.1.1 i1)
    (n8 := ((ag_unit I a.1.1 _).trans v1))
    (n9 := a.2.1)
    (k := by obtain ⟨t1, l1, J⟩ := a.2.2; exact k _ _ _ J)
theorem st_10_0 {E : ev_E} {P : Option ev_V ⊕ Nat → ev_H → Prop} {h : ev_H} {c t l i : Nat} {y0 y1 y2 y3 y4 y5 : Int32} (I : Inv h c t l) (hc : c < 512) (s1 : sok E (nI i + 1) y1) (s2 : sok E (nI i + 2) y2) (s3 : sok E (nI i + 3) y3) (s4 : sok E (nI i + 4) y4) (s5 : sok E (nI i + 5) y5) (v0 : f_TB_isBelow y1 (gI h 0 0 4) = 0) (k : Kp E P i (c + 1)) : Ev E M_LW_law 848 [(0, vR 5 0), (1, vR 0 0), (2, vR 0 6), (3, vR 0 27), (4, vI (nI i))] [] h P := by
  have b48 := Inv_48 I
  have b10 := Inv_10 I
  have c3 := rd_c3 I
  have c4 := st_c4 I
  have a := pr_crossmatch_0 I hc (x1 := y1) (x2 := y2) (x3 := m_LW_law_10_0_875 i y0 y1 y2 y3 y4 y5) v0
  exact c_LW_law_10_0 (y0 := y0) (y1 := y1) (y2 := y2) (y3 := y3) (y4 := y4) (y5 := y5)
    (n0 := s1)
    (n1 := s2)
    (n2 := s3)
    (hP := Inv_pok I)
    (hR := Inv_R I)
    (hZ := Inv_ZM I hc)
    (hU := Inv_uok I)
    (n7 := ((ag_pat I a.1.1 _).trans v0))
    (n8 := a.2.1)
    (k := by obtain ⟨t1, l1, J⟩ := a.2.2; exact k _ _ _ J)
theorem st_11_11 {E : ev_E} {P : Option ev_V ⊕ Nat → ev_H → Prop} {h : ev_H} {c t l i : Nat} {y0 y1 y2 y3 y4 y5 : Int32} (I : Inv h c t l) (hc : c < 512) (s1 : sok E (nI i + 1) y1) (s2 : sok E (nI i + 2) y2) (s3 : sok E (nI i + 3) y3) (s4 : sok E (nI i + 4) y4) (s5 : sok E (nI i + 5) y5) (v0 : ¬ f_TB_isBelow y1 (gI h 0 0 4) = 0) (v1 : ¬ f_TB_isBelow y2 (gI h 0 0 3) = 0) (k : Kp E P i (c + 1)) : Ev E M_LW_law 924 [(0, vR 5 0), (1, vR 0 0), (2, vR 0 6), (3, vR 0 27), (4, vI (nI i))] [] h P := by
  have b48 := Inv_48 I
  have b10 := Inv_10 I
  have c3 := rd_c3 I
  have c4 := st_c4 I
  obtain ⟨u1, i1, rfl⟩ := isB_ex (n := cP h) (x := y1) (by omega) (by rw [← Inv_m I]; exact v0)
  obtain ⟨u2, i2, rfl⟩ := isB_ex (n := cU h) (x := y2) (by omega) (by rw [← Inv_n I]; exact v1)
  have a := pr_reserve_11 I hc  i1 i2
  exact c_LW_law_11_11 (y0 := y0) (y1 := nI u1) (y2 := nI u2) (y3 := y3) (y4 := y4) (y5 := y5)
    (n0 := s1)
    (n1 := s2)
    (hP := Inv_pok I)
    (hR := Inv_R I)
    (hZ := Inv_ZM I hc)
    (hU := Inv_uok I)
    (n6 := st_p1 I a.1.1 i1)
    (n7 := st_u1 I a.1.1 i2)
    (n8 := a.1.2)
    (n9 := nI_pos (by omega))
    (n10 := by rw [nI_clamp (by omega)]; omega)
    (n11 := nI_pos (by omega))
    (n12 := by rw [nI_clamp (by omega)]; omega)
    (n13 := by rw [st_cx]; exact nI_pos (by omega))
    (n14 := by rw [st_cx, nI_clamp (by omega)]; omega)
    (e1 := a.2.1)
    (e2 := a.2.2.1)
    (k := by obtain ⟨t1, l1, J⟩ := a.2.2.2; exact k _ _ _ J)
theorem st_11_10 {E : ev_E} {P : Option ev_V ⊕ Nat → ev_H → Prop} {h : ev_H} {c t l i : Nat} {y0 y1 y2 y3 y4 y5 : Int32} (I : Inv h c t l) (hc : c < 512) (s1 : sok E (nI i + 1) y1) (s2 : sok E (nI i + 2) y2) (s3 : sok E (nI i + 3) y3) (s4 : sok E (nI i + 4) y4) (s5 : sok E (nI i + 5) y5) (v0 : ¬ f_TB_isBelow y1 (gI h 0 0 4) = 0) (v1 : f_TB_isBelow y2 (gI h 0 0 3) = 0) (k : Kp E P i (c + 1)) : Ev E M_LW_law 924 [(0, vR 5 0), (1, vR 0 0), (2, vR 0 6), (3, vR 0 27), (4, vI (nI i))] [] h P := by
  have b48 := Inv_48 I
  have b10 := Inv_10 I
  have c3 := rd_c3 I
  have c4 := st_c4 I
  obtain ⟨u1, i1, e1⟩ := isB_ex (n := cP h) (x := y1) (by omega) (by rw [← Inv_m I]; exact v0)
  have a := pr_reserve_10 I hc (x1 := y1) (x2 := y2) v0 v1
  exact c_LW_law_11_10 (y0 := y0) (y1 := y1) (y2 := y2) (y3 := y3) (y4 := y4) (y5 := y5)
    (n0 := s1)
    (n1 := s2)
    (hP := Inv_pok I)
    (hR := Inv_R I)
    (hZ := Inv_ZM I hc)
    (hU := Inv_uok I)
    (n6 := by rw [e1] at a ⊢; exact st_p1 I a.1.1 i1)
    (n7 := ((ag_unit I a.1.1 _).trans v1))
    (e1 := a.2.1)
    (e2 := a.2.2.1)
    (k := by obtain ⟨t1, l1, J⟩ := a.2.2.2; exact k _ _ _ J)
theorem st_11_0 {E : ev_E} {P : Option ev_V ⊕ Nat → ev_H → Prop} {h : ev_H} {c t l i : Nat} {y0 y1 y2 y3 y4 y5 : Int32} (I : Inv h c t l) (hc : c < 512) (s1 : sok E (nI i + 1) y1) (s2 : sok E (nI i + 2) y2) (s3 : sok E (nI i + 3) y3) (s4 : sok E (nI i + 4) y4) (s5 : sok E (nI i + 5) y5) (v0 : f_TB_isBelow y1 (gI h 0 0 4) = 0) (k : Kp E P i (c + 1)) : Ev E M_LW_law 924 [(0, vR 5 0), (1, vR 0 0), (2, vR 0 6), (3, vR 0 27), (4, vI (nI i))] [] h P := by
  have b48 := Inv_48 I
  have b10 := Inv_10 I
  have c3 := rd_c3 I
  have c4 := st_c4 I
  have a := pr_reserve_0 I hc (x1 := y1) (x2 := y2) v0
  exact c_LW_law_11_0 (y0 := y0) (y1 := y1) (y2 := y2) (y3 := y3) (y4 := y4) (y5 := y5)
    (n0 := s1)
    (n1 := s2)
    (hP := Inv_pok I)
    (hR := Inv_R I)
    (hZ := Inv_ZM I hc)
    (hU := Inv_uok I)
    (n6 := ((ag_pat I a.1.1 _).trans v0))
    (e1 := a.2.1)
    (e2 := a.2.2.1)
    (k := by obtain ⟨t1, l1, J⟩ := a.2.2.2; exact k _ _ _ J)
theorem st_12_1 {E : ev_E} {P : Option ev_V ⊕ Nat → ev_H → Prop} {h : ev_H} {c t l i : Nat} {y0 y1 y2 y3 y4 y5 : Int32} (I : Inv h c t l) (hc : c < 512) (s1 : sok E (nI i + 1) y1) (s2 : sok E (nI i + 2) y2) (s3 : sok E (nI i + 3) y3) (s4 : sok E (nI i + 4) y4) (s5 : sok E (nI i + 5) y5) (v0 : ¬ f_TB_isBelow y1 (gI h 0 0 3) = 0) (k : Kp E P i (c + 1)) : Ev E M_LW_law 992 [(0, vR 5 0), (1, vR 0 0), (2, vR 0 6), (3, vR 0 27), (4, vI (nI i))] [] h P := by
  have b48 := Inv_48 I
  have b10 := Inv_10 I
  have c3 := rd_c3 I
  have c4 := st_c4 I
  obtain ⟨u1, i1, rfl⟩ := isB_ex (n := cU h) (x := y1) (by omega) (by rw [← Inv_n I]; exact v0)
  have a := pr_release_1 I hc  i1
  exact c_LW_law_12_1 (y0 := y0) (y1 := nI u1) (y2 := y2) (y3 := y3) (y4 := y4) (y5 := y5)
    (n0 := s1)
    (hU := Inv_uok I)
    (hR := Inv_R I)
    (hZ := Inv_ZM I hc)
    (n4 := st_u1 I a.1.1 i1)
    (n5 := a.1.2)
    (n6 := nI_pos (by omega))
    (n7 := by rw [nI_clamp (by omega)]; omega)
    (e1 := a.2.1)
    (e2 := a.2.2.1)
    (k := by obtain ⟨t1, l1, J⟩ := a.2.2.2; exact k _ _ _ J)
theorem st_12_0 {E : ev_E} {P : Option ev_V ⊕ Nat → ev_H → Prop} {h : ev_H} {c t l i : Nat} {y0 y1 y2 y3 y4 y5 : Int32} (I : Inv h c t l) (hc : c < 512) (s1 : sok E (nI i + 1) y1) (s2 : sok E (nI i + 2) y2) (s3 : sok E (nI i + 3) y3) (s4 : sok E (nI i + 4) y4) (s5 : sok E (nI i + 5) y5) (v0 : f_TB_isBelow y1 (gI h 0 0 3) = 0) (k : Kp E P i (c + 1)) : Ev E M_LW_law 992 [(0, vR 5 0), (1, vR 0 0), (2, vR 0 6), (3, vR 0 27), (4, vI (nI i))] [] h P := by
  have b48 := Inv_48 I
  have b10 := Inv_10 I
  have c3 := rd_c3 I
  have c4 := st_c4 I
  have a := pr_release_0 I hc (x1 := y1) v0
  exact c_LW_law_12_0 (y0 := y0) (y1 := y1) (y2 := y2) (y3 := y3) (y4 := y4) (y5 := y5)
    (n0 := s1)
    (hU := Inv_uok I)
    (hR := Inv_R I)
    (hZ := Inv_ZM I hc)
    (n4 := ((ag_unit I a.1.1 _).trans v0))
    (e1 := a.2.1)
    (e2 := a.2.2.1)
    (k := by obtain ⟨t1, l1, J⟩ := a.2.2.2; exact k _ _ _ J)
theorem st_13_11 {E : ev_E} {P : Option ev_V ⊕ Nat → ev_H → Prop} {h : ev_H} {c t l i : Nat} {y0 y1 y2 y3 y4 y5 : Int32} (I : Inv h c t l) (hc : c < 512) (s1 : sok E (nI i + 1) y1) (s2 : sok E (nI i + 2) y2) (s3 : sok E (nI i + 3) y3) (s4 : sok E (nI i + 4) y4) (s5 : sok E (nI i + 5) y5) (v0 : ¬ f_TB_isBelow y1 (gI h 0 0 4) = 0) (v1 : ¬ f_TB_isBelow y2 (gI h 0 0 3) = 0) (k : Kp E P i (c + 1)) : Ev E M_LW_law 1048 [(0, vR 5 0), (1, vR 0 0), (2, vR 0 6), (3, vR 0 27), (4, vI (nI i))] [] h P := by
  have b48 := Inv_48 I
  have b10 := Inv_10 I
  have c3 := rd_c3 I
  have c4 := st_c4 I
  obtain ⟨u1, i1, rfl⟩ := isB_ex (n := cP h) (x := y1) (by omega) (by rw [← Inv_m I]; exact v0)
  obtain ⟨u2, i2, rfl⟩ := isB_ex (n := cU h) (x := y2) (by omega) (by rw [← Inv_n I]; exact v1)
  have a := pr_issue_11 I hc  i1 i2
  exact c_LW_law_13_11 (y0 := y0) (y1 := nI u1) (y2 := nI u2) (y3 := y3) (y4 := y4) (y5 := y5)
    (n0 := s1)
    (n1 := s2)
    (hP := Inv_pok I)
    (hR := Inv_R I)
    (hZ := Inv_ZM I hc)
    (hU := Inv_uok I)
    (n6 := by rw [c3]; omega)
    (n7 := by rw [c3]; exact Inv_n I)
    (n8 := fun b hb => st_g I (by rw [c3] at hb; exact hb))
    (n9 := st_p1 I a.1.1 i1)
    (n10 := st_u1 I a.1.1 i2)
    (n11 := a.1.2)
    (n12 := nI_pos (by omega))
    (n13 := by rw [nI_clamp (by omega)]; omega)
    (n14 := nI_pos (by omega))
    (n15 := by rw [nI_clamp (by omega)]; omega)
    (n16 := by rw [rd_c2 I a.1.1]; omega)
    (n17 := by rw [rd_c2 I a.1.1]; exact st_n2 I a.1.1)
    (n18 := by rw [st_cx]; exact nI_pos (by omega))
    (n19 := by rw [st_cx, nI_clamp (by omega)]; omega)
    (e1 := a.2.1)
    (e2 := a.2.2.1)
    (k := by obtain ⟨t1, l1, J⟩ := a.2.2.2; exact k _ _ _ J)
theorem st_13_10 {E : ev_E} {P : Option ev_V ⊕ Nat → ev_H → Prop} {h : ev_H} {c t l i : Nat} {y0 y1 y2 y3 y4 y5 : Int32} (I : Inv h c t l) (hc : c < 512) (s1 : sok E (nI i + 1) y1) (s2 : sok E (nI i + 2) y2) (s3 : sok E (nI i + 3) y3) (s4 : sok E (nI i + 4) y4) (s5 : sok E (nI i + 5) y5) (v0 : ¬ f_TB_isBelow y1 (gI h 0 0 4) = 0) (v1 : f_TB_isBelow y2 (gI h 0 0 3) = 0) (k : Kp E P i (c + 1)) : Ev E M_LW_law 1048 [(0, vR 5 0), (1, vR 0 0), (2, vR 0 6), (3, vR 0 27), (4, vI (nI i))] [] h P := by
  have b48 := Inv_48 I
  have b10 := Inv_10 I
  have c3 := rd_c3 I
  have c4 := st_c4 I
  obtain ⟨u1, i1, e1⟩ := isB_ex (n := cP h) (x := y1) (by omega) (by rw [← Inv_m I]; exact v0)
  have a := pr_issue_10 I hc (x1 := y1) (x2 := y2) v0 v1
  exact c_LW_law_13_10 (y0 := y0) (y1 := y1) (y2 := y2) (y3 := y3) (y4 := y4) (y5 := y5)
    (n0 := s1)
    (n1 := s2)
    (hP := Inv_pok I)
    (hR := Inv_R I)
    (hZ := Inv_ZM I hc)
    (hU := Inv_uok I)
    (n6 := by rw [c3]; omega)
    (n7 := by rw [c3]; exact Inv_n I)
    (n8 := fun b hb => st_g I (by rw [c3] at hb; exact hb))
    (n9 := by rw [e1] at a ⊢; exact st_p1 I a.1.1 i1)
    (n10 := ((ag_unit I a.1.1 _).trans v1))
    (e1 := a.2.1)
    (e2 := a.2.2.1)
    (k := by obtain ⟨t1, l1, J⟩ := a.2.2.2; exact k _ _ _ J)
theorem st_13_0 {E : ev_E} {P : Option ev_V ⊕ Nat → ev_H → Prop} {h : ev_H} {c t l i : Nat} {y0 y1 y2 y3 y4 y5 : Int32} (I : Inv h c t l) (hc : c < 512) (s1 : sok E (nI i + 1) y1) (s2 : sok E (nI i + 2) y2) (s3 : sok E (nI i + 3) y3) (s4 : sok E (nI i + 4) y4) (s5 : sok E (nI i + 5) y5) (v0 : f_TB_isBelow y1 (gI h 0 0 4) = 0) (k : Kp E P i (c + 1)) : Ev E M_LW_law 1048 [(0, vR 5 0), (1, vR 0 0), (2, vR 0 6), (3, vR 0 27), (4, vI (nI i))] [] h P := by
  have b48 := Inv_48 I
  have b10 := Inv_10 I
  have c3 := rd_c3 I
  have c4 := st_c4 I
  have a := pr_issue_0 I hc (x1 := y1) (x2 := y2) v0
  exact c_LW_law_13_0 (y0 := y0) (y1 := y1) (y2 := y2) (y3 := y3) (y4 := y4) (y5 := y5)
    (n0 := s1)
    (n1 := s2)
    (hP := Inv_pok I)
    (hR := Inv_R I)
    (hZ := Inv_ZM I hc)
    (hU := Inv_uok I)
    (n6 := by rw [c3]; omega)
    (n7 := by rw [c3]; exact Inv_n I)
    (n8 := fun b hb => st_g I (by rw [c3] at hb; exact hb))
    (n9 := ((ag_pat I a.1.1 _).trans v0))
    (e1 := a.2.1)
    (e2 := a.2.2.1)
    (k := by obtain ⟨t1, l1, J⟩ := a.2.2.2; exact k _ _ _ J)
theorem st_14_11 {E : ev_E} {P : Option ev_V ⊕ Nat → ev_H → Prop} {h : ev_H} {c t l i : Nat} {y0 y1 y2 y3 y4 y5 : Int32} (I : Inv h c t l) (hc : c < 512) (s1 : sok E (nI i + 1) y1) (s2 : sok E (nI i + 2) y2) (s3 : sok E (nI i + 3) y3) (s4 : sok E (nI i + 4) y4) (s5 : sok E (nI i + 5) y5) (v0 : ¬ f_TB_isBelow y1 (gI h 0 0 4) = 0) (v1 : ¬ f_TB_isBelow y2 (gI h 0 0 3) = 0) (k : Kp E P i (c + 1)) : Ev E M_LW_law 1116 [(0, vR 5 0), (1, vR 0 0), (2, vR 0 6), (3, vR 0 27), (4, vI (nI i))] [] h P := by
  have b48 := Inv_48 I
  have b10 := Inv_10 I
  have c3 := rd_c3 I
  have c4 := st_c4 I
  obtain ⟨u1, i1, rfl⟩ := isB_ex (n := cP h) (x := y1) (by omega) (by rw [← Inv_m I]; exact v0)
  obtain ⟨u2, i2, rfl⟩ := isB_ex (n := cU h) (x := y2) (by omega) (by rw [← Inv_n I]; exact v1)
  have a := pr_emergency_11 I hc (x3 := y3) i1 i2
  exact c_LW_law_14_11 (y0 := y0) (y1 := nI u1) (y2 := nI u2) (y3 := y3) (y4 := y4) (y5 := y5)
    (n0 := s1)
    (n1 := s2)
    (n2 := s3)
    (hP := Inv_pok I)
    (hR := Inv_R I)
    (hZ := Inv_ZM I hc)
    (hU := Inv_uok I)
    (n7 := by rw [c3]; omega)
    (n8 := by rw [c3]; exact Inv_n I)
    (n9 := fun b hb => st_g I (by rw [c3] at hb; exact hb))
    (n10 := st_p1 I a.1.1 i1)
    (n11 := st_u1 I a.1.1 i2)
    (n12 := a.1.2)
    (n13 := nI_pos (by omega))
    (n14 := by rw [nI_clamp (by omega)]; omega)
    (n15 := nI_pos (by omega))
    (n16 := by rw [nI_clamp (by omega)]; omega)
    (n17 := by rw [rd_c2 I a.1.1]; omega)
    (n18 := by rw [rd_c2 I a.1.1]; exact st_n2 I a.1.1)
    (e1 := a.2.1)
    (e2 := a.2.2.1)
    (k := by obtain ⟨t1, l1, J⟩ := a.2.2.2; exact k _ _ _ J)
theorem st_14_10 {E : ev_E} {P : Option ev_V ⊕ Nat → ev_H → Prop} {h : ev_H} {c t l i : Nat} {y0 y1 y2 y3 y4 y5 : Int32} (I : Inv h c t l) (hc : c < 512) (s1 : sok E (nI i + 1) y1) (s2 : sok E (nI i + 2) y2) (s3 : sok E (nI i + 3) y3) (s4 : sok E (nI i + 4) y4) (s5 : sok E (nI i + 5) y5) (v0 : ¬ f_TB_isBelow y1 (gI h 0 0 4) = 0) (v1 : f_TB_isBelow y2 (gI h 0 0 3) = 0) (k : Kp E P i (c + 1)) : Ev E M_LW_law 1116 [(0, vR 5 0), (1, vR 0 0), (2, vR 0 6), (3, vR 0 27), (4, vI (nI i))] [] h P := by
  have b48 := Inv_48 I
  have b10 := Inv_10 I
  have c3 := rd_c3 I
  have c4 := st_c4 I
  obtain ⟨u1, i1, e1⟩ := isB_ex (n := cP h) (x := y1) (by omega) (by rw [← Inv_m I]; exact v0)
  have a := pr_emergency_10 I hc (x1 := y1) (x2 := y2) (x3 := y3) v0 v1
  exact c_LW_law_14_10 (y0 := y0) (y1 := y1) (y2 := y2) (y3 := y3) (y4 := y4) (y5 := y5)
    (n0 := s1)
    (n1 := s2)
    (n2 := s3)
    (hP := Inv_pok I)
    (hR := Inv_R I)
    (hZ := Inv_ZM I hc)
    (hU := Inv_uok I)
    (n7 := by rw [c3]; omega)
    (n8 := by rw [c3]; exact Inv_n I)
    (n9 := fun b hb => st_g I (by rw [c3] at hb; exact hb))
    (n10 := by rw [e1] at a ⊢; exact st_p1 I a.1.1 i1)
    (n11 := ((ag_unit I a.1.1 _).trans v1))
    (e1 := a.2.1)
    (e2 := a.2.2.1)
    (k := by obtain ⟨t1, l1, J⟩ := a.2.2.2; exact k _ _ _ J)
theorem st_14_0 {E : ev_E} {P : Option ev_V ⊕ Nat → ev_H → Prop} {h : ev_H} {c t l i : Nat} {y0 y1 y2 y3 y4 y5 : Int32} (I : Inv h c t l) (hc : c < 512) (s1 : sok E (nI i + 1) y1) (s2 : sok E (nI i + 2) y2) (s3 : sok E (nI i + 3) y3) (s4 : sok E (nI i + 4) y4) (s5 : sok E (nI i + 5) y5) (v0 : f_TB_isBelow y1 (gI h 0 0 4) = 0) (k : Kp E P i (c + 1)) : Ev E M_LW_law 1116 [(0, vR 5 0), (1, vR 0 0), (2, vR 0 6), (3, vR 0 27), (4, vI (nI i))] [] h P := by
  have b48 := Inv_48 I
  have b10 := Inv_10 I
  have c3 := rd_c3 I
  have c4 := st_c4 I
  have a := pr_emergency_0 I hc (x1 := y1) (x2 := y2) (x3 := y3) v0
  exact c_LW_law_14_0 (y0 := y0) (y1 := y1) (y2 := y2) (y3 := y3) (y4 := y4) (y5 := y5)
    (n0 := s1)
    (n1 := s2)
    (n2 := s3)
    (hP := Inv_pok I)
    (hR := Inv_R I)
    (hZ := Inv_ZM I hc)
    (hU := Inv_uok I)
    (n7 := by rw [c3]; omega)
    (n8 := by rw [c3]; exact Inv_n I)
    (n9 := fun b hb => st_g I (by rw [c3] at hb; exact hb))
    (n10 := ((ag_pat I a.1.1 _).trans v0))
    (e1 := a.2.1)
    (e2 := a.2.2.1)
    (k := by obtain ⟨t1, l1, J⟩ := a.2.2.2; exact k _ _ _ J)
theorem st_15_1 {E : ev_E} {P : Option ev_V ⊕ Nat → ev_H → Prop} {h : ev_H} {c t l i : Nat} {y0 y1 y2 y3 y4 y5 : Int32} (I : Inv h c t l) (hc : c < 512) (s1 : sok E (nI i + 1) y1) (s2 : sok E (nI i + 2) y2) (s3 : sok E (nI i + 3) y3) (s4 : sok E (nI i + 4) y4) (s5 : sok E (nI i + 5) y5) (v0 : ¬ f_TB_isBelow y1 (gI h 0 0 3) = 0) (k : Kp E P i (c + 1)) : Ev E M_LW_law 1196 [(0, vR 5 0), (1, vR 0 0), (2, vR 0 6), (3, vR 0 27), (4, vI (nI i))] [] h P := by
  have b48 := Inv_48 I
  have b10 := Inv_10 I
  have c3 := rd_c3 I
  have c4 := st_c4 I
  obtain ⟨u1, i1, rfl⟩ := isB_ex (n := cU h) (x := y1) (by omega) (by rw [← Inv_n I]; exact v0)
  have a := pr_giveBack_1 I hc  i1
  exact c_LW_law_15_1 (y0 := y0) (y1 := nI u1) (y2 := y2) (y3 := y3) (y4 := y4) (y5 := y5)
    (n0 := s1)
    (hU := Inv_uok I)
    (hR := Inv_R I)
    (hZ := Inv_ZM I hc)
    (n4 := st_u1 I a.1.1 i1)
    (n5 := a.1.2)
    (n6 := nI_pos (by omega))
    (n7 := by rw [nI_clamp (by omega)]; omega)
    (e1 := a.2.1)
    (e2 := a.2.2.1)
    (k := by obtain ⟨t1, l1, J⟩ := a.2.2.2; exact k _ _ _ J)
theorem st_15_0 {E : ev_E} {P : Option ev_V ⊕ Nat → ev_H → Prop} {h : ev_H} {c t l i : Nat} {y0 y1 y2 y3 y4 y5 : Int32} (I : Inv h c t l) (hc : c < 512) (s1 : sok E (nI i + 1) y1) (s2 : sok E (nI i + 2) y2) (s3 : sok E (nI i + 3) y3) (s4 : sok E (nI i + 4) y4) (s5 : sok E (nI i + 5) y5) (v0 : f_TB_isBelow y1 (gI h 0 0 3) = 0) (k : Kp E P i (c + 1)) : Ev E M_LW_law 1196 [(0, vR 5 0), (1, vR 0 0), (2, vR 0 6), (3, vR 0 27), (4, vI (nI i))] [] h P := by
  have b48 := Inv_48 I
  have b10 := Inv_10 I
  have c3 := rd_c3 I
  have c4 := st_c4 I
  have a := pr_giveBack_0 I hc (x1 := y1) v0
  exact c_LW_law_15_0 (y0 := y0) (y1 := y1) (y2 := y2) (y3 := y3) (y4 := y4) (y5 := y5)
    (n0 := s1)
    (hU := Inv_uok I)
    (hR := Inv_R I)
    (hZ := Inv_ZM I hc)
    (n4 := ((ag_unit I a.1.1 _).trans v0))
    (e1 := a.2.1)
    (e2 := a.2.2.1)
    (k := by obtain ⟨t1, l1, J⟩ := a.2.2.2; exact k _ _ _ J)
theorem st_16_1 {E : ev_E} {P : Option ev_V ⊕ Nat → ev_H → Prop} {h : ev_H} {c t l i : Nat} {y0 y1 y2 y3 y4 y5 : Int32} (I : Inv h c t l) (hc : c < 512) (s1 : sok E (nI i + 1) y1) (s2 : sok E (nI i + 2) y2) (s3 : sok E (nI i + 3) y3) (s4 : sok E (nI i + 4) y4) (s5 : sok E (nI i + 5) y5) (v0 : ¬ f_TB_isBelow y1 (gI h 0 0 3) = 0) (k : Kp E P i (c + 1)) : Ev E M_LW_law 1252 [(0, vR 5 0), (1, vR 0 0), (2, vR 0 6), (3, vR 0 27), (4, vI (nI i))] [] h P := by
  have b48 := Inv_48 I
  have b10 := Inv_10 I
  have c3 := rd_c3 I
  have c4 := st_c4 I
  obtain ⟨u1, i1, rfl⟩ := isB_ex (n := cU h) (x := y1) (by omega) (by rw [← Inv_n I]; exact v0)
  have a := pr_transfused_1 I hc  i1
  exact c_LW_law_16_1 (y0 := y0) (y1 := nI u1) (y2 := y2) (y3 := y3) (y4 := y4) (y5 := y5)
    (n0 := s1)
    (hU := Inv_uok I)
    (hR := Inv_R I)
    (hZ := Inv_ZM I hc)
    (n4 := st_u1 I a.1.1 i1)
    (n5 := a.1.2)
    (n6 := nI_pos (by omega))
    (n7 := by rw [nI_clamp (by omega)]; omega)
    (e1 := a.2.1)
    (e2 := a.2.2.1)
    (k := by obtain ⟨t1, l1, J⟩ := a.2.2.2; exact k _ _ _ J)
theorem st_16_0 {E : ev_E} {P : Option ev_V ⊕ Nat → ev_H → Prop} {h : ev_H} {c t l i : Nat} {y0 y1 y2 y3 y4 y5 : Int32} (I : Inv h c t l) (hc : c < 512) (s1 : sok E (nI i + 1) y1) (s2 : sok E (nI i + 2) y2) (s3 : sok E (nI i + 3) y3) (s4 : sok E (nI i + 4) y4) (s5 : sok E (nI i + 5) y5) (v0 : f_TB_isBelow y1 (gI h 0 0 3) = 0) (k : Kp E P i (c + 1)) : Ev E M_LW_law 1252 [(0, vR 5 0), (1, vR 0 0), (2, vR 0 6), (3, vR 0 27), (4, vI (nI i))] [] h P := by
  have b48 := Inv_48 I
  have b10 := Inv_10 I
  have c3 := rd_c3 I
  have c4 := st_c4 I
  have a := pr_transfused_0 I hc (x1 := y1) v0
  exact c_LW_law_16_0 (y0 := y0) (y1 := y1) (y2 := y2) (y3 := y3) (y4 := y4) (y5 := y5)
    (n0 := s1)
    (hU := Inv_uok I)
    (hR := Inv_R I)
    (hZ := Inv_ZM I hc)
    (n4 := ((ag_unit I a.1.1 _).trans v0))
    (e1 := a.2.1)
    (e2 := a.2.2.1)
    (k := by obtain ⟨t1, l1, J⟩ := a.2.2.2; exact k _ _ _ J)
theorem st_17_1 {E : ev_E} {P : Option ev_V ⊕ Nat → ev_H → Prop} {h : ev_H} {c t l i : Nat} {y0 y1 y2 y3 y4 y5 : Int32} (I : Inv h c t l) (hc : c < 512) (s1 : sok E (nI i + 1) y1) (s2 : sok E (nI i + 2) y2) (s3 : sok E (nI i + 3) y3) (s4 : sok E (nI i + 4) y4) (s5 : sok E (nI i + 5) y5) (v0 : ¬ f_TB_isBelow y1 (gI h 0 0 3) = 0) (k : Kp E P i (c + 1)) : Ev E M_LW_law 1308 [(0, vR 5 0), (1, vR 0 0), (2, vR 0 6), (3, vR 0 27), (4, vI (nI i))] [] h P := by
  have b48 := Inv_48 I
  have b10 := Inv_10 I
  have c3 := rd_c3 I
  have c4 := st_c4 I
  obtain ⟨u1, i1, rfl⟩ := isB_ex (n := cU h) (x := y1) (by omega) (by rw [← Inv_n I]; exact v0)
  have a := pr_discard_1 I hc (x2 := y2) i1
  exact c_LW_law_17_1 (y0 := y0) (y1 := nI u1) (y2 := y2) (y3 := y3) (y4 := y4) (y5 := y5)
    (n0 := s1)
    (n1 := s2)
    (hU := Inv_uok I)
    (hR := Inv_R I)
    (hZ := Inv_ZM I hc)
    (n5 := st_u1 I a.1.1 i1)
    (n6 := a.1.2)
    (n7 := nI_pos (by omega))
    (n8 := by rw [nI_clamp (by omega)]; omega)
    (e1 := a.2.1)
    (e2 := a.2.2.1)
    (k := by obtain ⟨t1, l1, J⟩ := a.2.2.2; exact k _ _ _ J)
theorem st_17_0 {E : ev_E} {P : Option ev_V ⊕ Nat → ev_H → Prop} {h : ev_H} {c t l i : Nat} {y0 y1 y2 y3 y4 y5 : Int32} (I : Inv h c t l) (hc : c < 512) (s1 : sok E (nI i + 1) y1) (s2 : sok E (nI i + 2) y2) (s3 : sok E (nI i + 3) y3) (s4 : sok E (nI i + 4) y4) (s5 : sok E (nI i + 5) y5) (v0 : f_TB_isBelow y1 (gI h 0 0 3) = 0) (k : Kp E P i (c + 1)) : Ev E M_LW_law 1308 [(0, vR 5 0), (1, vR 0 0), (2, vR 0 6), (3, vR 0 27), (4, vI (nI i))] [] h P := by
  have b48 := Inv_48 I
  have b10 := Inv_10 I
  have c3 := rd_c3 I
  have c4 := st_c4 I
  have a := pr_discard_0 I hc (x1 := y1) (x2 := y2) v0
  exact c_LW_law_17_0 (y0 := y0) (y1 := y1) (y2 := y2) (y3 := y3) (y4 := y4) (y5 := y5)
    (n0 := s1)
    (n1 := s2)
    (hU := Inv_uok I)
    (hR := Inv_R I)
    (hZ := Inv_ZM I hc)
    (n5 := ((ag_unit I a.1.1 _).trans v0))
    (e1 := a.2.1)
    (e2 := a.2.2.1)
    (k := by obtain ⟨t1, l1, J⟩ := a.2.2.2; exact k _ _ _ J)
theorem st_18 {E : ev_E} {P : Option ev_V ⊕ Nat → ev_H → Prop} {h : ev_H} {c t l i : Nat} {y0 y1 y2 y3 y4 y5 : Int32} (I : Inv h c t l) (hc : c < 512) (s1 : sok E (nI i + 1) y1) (s2 : sok E (nI i + 2) y2) (s3 : sok E (nI i + 3) y3) (s4 : sok E (nI i + 4) y4) (s5 : sok E (nI i + 5) y5)  (k : Kp E P i (c + 1)) : Ev E M_LW_law 1376 [(0, vR 5 0), (1, vR 0 0), (2, vR 0 6), (3, vR 0 27), (4, vI (nI i))] [] h P := by
  have b48 := Inv_48 I
  have b10 := Inv_10 I
  have c3 := rd_c3 I
  have c4 := st_c4 I
  have a := pr_quarantine I hc (x1 := y1) (x2 := m_LW_law_18_1397 i y0 y1 y2 y3 y4 y5)
  exact c_LW_law_18 (y0 := y0) (y1 := y1) (y2 := y2) (y3 := y3) (y4 := y4) (y5 := y5)
    (n0 := s1)
    (n1 := s2)
    (n2 := by rw [c3]; omega)
    (n3 := by rw [c3]; exact Inv_n I)
    (hR := Inv_R I)
    (n5 := fun b hb => st_g I (by rw [c3] at hb; exact hb))
    (hZ := Inv_ZM I hc)
    (n7 := by rw [rd_c2 I a.1.1]; omega)
    (n8 := by rw [rd_c2 I a.1.1]; exact st_n2 I a.1.1)
    (n9 := a.1.2)
    (n10 := a.2.1)
    (n11 := a.2.2.1)
    (k := by obtain ⟨t1, l1, J⟩ := a.2.2.2; exact k _ _ _ J)
theorem st_19_1 {E : ev_E} {P : Option ev_V ⊕ Nat → ev_H → Prop} {h : ev_H} {c t l i : Nat} {y0 y1 y2 y3 y4 y5 : Int32} (I : Inv h c t l) (hc : c < 512) (s1 : sok E (nI i + 1) y1) (s2 : sok E (nI i + 2) y2) (s3 : sok E (nI i + 3) y3) (s4 : sok E (nI i + 4) y4) (s5 : sok E (nI i + 5) y5) (v0 : ¬ f_TB_isBelow y1 (gI h 0 0 3) = 0) (k : Kp E P i (c + 1)) : Ev E M_LW_law 1460 [(0, vR 5 0), (1, vR 0 0), (2, vR 0 6), (3, vR 0 27), (4, vI (nI i))] [] h P := by
  have b48 := Inv_48 I
  have b10 := Inv_10 I
  have c3 := rd_c3 I
  have c4 := st_c4 I
  obtain ⟨u1, i1, rfl⟩ := isB_ex (n := cU h) (x := y1) (by omega) (by rw [← Inv_n I]; exact v0)
  have a := pr_of_1 I hc (x2 := y2) i1
  exact c_LW_law_19_1 (y0 := y0) (y1 := nI u1) (y2 := y2) (y3 := y3) (y4 := y4) (y5 := y5)
    (n0 := s1)
    (n1 := s2)
    (hU := Inv_uok I)
    (hR := Inv_R I)
    (hZ := Inv_ZM I hc)
    (n5 := st_u1 I a.1.1 i1)
    (n6 := a.1.2)
    (n7 := nI_pos (by omega))
    (n8 := by rw [nI_clamp (by omega)]; omega)
    (e1 := a.2.1)
    (e2 := a.2.2.1)
    (k := by obtain ⟨t1, l1, J⟩ := a.2.2.2; exact k _ _ _ J)
theorem st_19_0 {E : ev_E} {P : Option ev_V ⊕ Nat → ev_H → Prop} {h : ev_H} {c t l i : Nat} {y0 y1 y2 y3 y4 y5 : Int32} (I : Inv h c t l) (hc : c < 512) (s1 : sok E (nI i + 1) y1) (s2 : sok E (nI i + 2) y2) (s3 : sok E (nI i + 3) y3) (s4 : sok E (nI i + 4) y4) (s5 : sok E (nI i + 5) y5) (v0 : f_TB_isBelow y1 (gI h 0 0 3) = 0) (k : Kp E P i (c + 1)) : Ev E M_LW_law 1460 [(0, vR 5 0), (1, vR 0 0), (2, vR 0 6), (3, vR 0 27), (4, vI (nI i))] [] h P := by
  have b48 := Inv_48 I
  have b10 := Inv_10 I
  have c3 := rd_c3 I
  have c4 := st_c4 I
  have a := pr_of_0 I hc (x1 := y1) (x2 := y2) v0
  exact c_LW_law_19_0 (y0 := y0) (y1 := y1) (y2 := y2) (y3 := y3) (y4 := y4) (y5 := y5)
    (n0 := s1)
    (n1 := s2)
    (hU := Inv_uok I)
    (hR := Inv_R I)
    (hZ := Inv_ZM I hc)
    (n5 := ((ag_unit I a.1.1 _).trans v0))
    (e1 := a.2.1)
    (e2 := a.2.2.1)
    (k := by obtain ⟨t1, l1, J⟩ := a.2.2.2; exact k _ _ _ J)
theorem st_20_1 {E : ev_E} {P : Option ev_V ⊕ Nat → ev_H → Prop} {h : ev_H} {c t l i : Nat} {y0 y1 y2 y3 y4 y5 : Int32} (I : Inv h c t l) (hc : c < 512) (s1 : sok E (nI i + 1) y1) (s2 : sok E (nI i + 2) y2) (s3 : sok E (nI i + 3) y3) (s4 : sok E (nI i + 4) y4) (s5 : sok E (nI i + 5) y5) (v0 : ¬ f_TB_isBelow y1 (gI h 0 0 3) = 0) (k : Kp E P i (c + 1)) : Ev E M_LW_law 1528 [(0, vR 5 0), (1, vR 0 0), (2, vR 0 6), (3, vR 0 27), (4, vI (nI i))] [] h P := by
  have b48 := Inv_48 I
  have b10 := Inv_10 I
  have c3 := rd_c3 I
  have c4 := st_c4 I
  obtain ⟨u1, i1, rfl⟩ := isB_ex (n := cU h) (x := y1) (by omega) (by rw [← Inv_n I]; exact v0)
  have a := pr_has_1 I hc (x2 := y2) i1
  exact c_LW_law_20_1 (y0 := y0) (y1 := nI u1) (y2 := y2) (y3 := y3) (y4 := y4) (y5 := y5)
    (n0 := s1)
    (n1 := s2)
    (hU := Inv_uok I)
    (hR := Inv_R I)
    (hZ := Inv_ZM I hc)
    (n5 := st_u1 I a.1.1 i1)
    (n6 := a.1.2)
    (n7 := nI_pos (by omega))
    (n8 := by rw [nI_clamp (by omega)]; omega)
    (e1 := a.2.1)
    (e2 := a.2.2.1)
    (k := by obtain ⟨t1, l1, J⟩ := a.2.2.2; exact k _ _ _ J)
theorem st_20_0 {E : ev_E} {P : Option ev_V ⊕ Nat → ev_H → Prop} {h : ev_H} {c t l i : Nat} {y0 y1 y2 y3 y4 y5 : Int32} (I : Inv h c t l) (hc : c < 512) (s1 : sok E (nI i + 1) y1) (s2 : sok E (nI i + 2) y2) (s3 : sok E (nI i + 3) y3) (s4 : sok E (nI i + 4) y4) (s5 : sok E (nI i + 5) y5) (v0 : f_TB_isBelow y1 (gI h 0 0 3) = 0) (k : Kp E P i (c + 1)) : Ev E M_LW_law 1528 [(0, vR 5 0), (1, vR 0 0), (2, vR 0 6), (3, vR 0 27), (4, vI (nI i))] [] h P := by
  have b48 := Inv_48 I
  have b10 := Inv_10 I
  have c3 := rd_c3 I
  have c4 := st_c4 I
  have a := pr_has_0 I hc (x1 := y1) (x2 := y2) v0
  exact c_LW_law_20_0 (y0 := y0) (y1 := y1) (y2 := y2) (y3 := y3) (y4 := y4) (y5 := y5)
    (n0 := s1)
    (n1 := s2)
    (hU := Inv_uok I)
    (hR := Inv_R I)
    (hZ := Inv_ZM I hc)
    (n5 := ((ag_unit I a.1.1 _).trans v0))
    (e1 := a.2.1)
    (e2 := a.2.2.1)
    (k := by obtain ⟨t1, l1, J⟩ := a.2.2.2; exact k _ _ _ J)
theorem st_21_1 {E : ev_E} {P : Option ev_V ⊕ Nat → ev_H → Prop} {h : ev_H} {c t l i : Nat} {y0 y1 y2 y3 y4 y5 : Int32} (I : Inv h c t l) (hc : c < 512) (s1 : sok E (nI i + 1) y1) (s2 : sok E (nI i + 2) y2) (s3 : sok E (nI i + 3) y3) (s4 : sok E (nI i + 4) y4) (s5 : sok E (nI i + 5) y5) (v0 : ¬ f_TB_isBelow y1 (gI h 0 0 4) = 0) (k : Kp E P i (c + 1)) : Ev E M_LW_law 1596 [(0, vR 5 0), (1, vR 0 0), (2, vR 0 6), (3, vR 0 27), (4, vI (nI i))] [] h P := by
  have b48 := Inv_48 I
  have b10 := Inv_10 I
  have c3 := rd_c3 I
  have c4 := st_c4 I
  obtain ⟨u1, i1, rfl⟩ := isB_ex (n := cP h) (x := y1) (by omega) (by rw [← Inv_m I]; exact v0)
  have a := pr_who_1 I hc (x2 := y2) i1
  exact c_LW_law_21_1 (y0 := y0) (y1 := nI u1) (y2 := y2) (y3 := y3) (y4 := y4) (y5 := y5)
    (n0 := s1)
    (n1 := s2)
    (hP := Inv_pok I)
    (hR := Inv_R I)
    (hZ := Inv_ZM I hc)
    (n5 := st_p1 I a.1.1 i1)
    (n6 := a.1.2)
    (n7 := nI_pos (by omega))
    (n8 := by rw [nI_clamp (by omega)]; omega)
    (e1 := a.2.1)
    (e2 := a.2.2.1)
    (k := by obtain ⟨t1, l1, J⟩ := a.2.2.2; exact k _ _ _ J)
theorem st_21_0 {E : ev_E} {P : Option ev_V ⊕ Nat → ev_H → Prop} {h : ev_H} {c t l i : Nat} {y0 y1 y2 y3 y4 y5 : Int32} (I : Inv h c t l) (hc : c < 512) (s1 : sok E (nI i + 1) y1) (s2 : sok E (nI i + 2) y2) (s3 : sok E (nI i + 3) y3) (s4 : sok E (nI i + 4) y4) (s5 : sok E (nI i + 5) y5) (v0 : f_TB_isBelow y1 (gI h 0 0 4) = 0) (k : Kp E P i (c + 1)) : Ev E M_LW_law 1596 [(0, vR 5 0), (1, vR 0 0), (2, vR 0 6), (3, vR 0 27), (4, vI (nI i))] [] h P := by
  have b48 := Inv_48 I
  have b10 := Inv_10 I
  have c3 := rd_c3 I
  have c4 := st_c4 I
  have a := pr_who_0 I hc (x1 := y1) (x2 := y2) v0
  exact c_LW_law_21_0 (y0 := y0) (y1 := y1) (y2 := y2) (y3 := y3) (y4 := y4) (y5 := y5)
    (n0 := s1)
    (n1 := s2)
    (hP := Inv_pok I)
    (hR := Inv_R I)
    (hZ := Inv_ZM I hc)
    (n5 := ((ag_pat I a.1.1 _).trans v0))
    (e1 := a.2.1)
    (e2 := a.2.2.1)
    (k := by obtain ⟨t1, l1, J⟩ := a.2.2.2; exact k _ _ _ J)
theorem st_22_11 {E : ev_E} {P : Option ev_V ⊕ Nat → ev_H → Prop} {h : ev_H} {c t l i : Nat} {y0 y1 y2 y3 y4 y5 : Int32} (I : Inv h c t l) (hc : c < 512) (s1 : sok E (nI i + 1) y1) (s2 : sok E (nI i + 2) y2) (s3 : sok E (nI i + 3) y3) (s4 : sok E (nI i + 4) y4) (s5 : sok E (nI i + 5) y5) (v0 : ¬ f_TB_isBelow y1 (gI h 0 0 4) = 0) (v1 : ¬ f_TB_isBelow y2 (gI h 0 0 3) = 0) (k : Kp E P i (c + 1)) : Ev E M_LW_law 1664 [(0, vR 5 0), (1, vR 0 0), (2, vR 0 6), (3, vR 0 27), (4, vI (nI i))] [] h P := by
  have b48 := Inv_48 I
  have b10 := Inv_10 I
  have c3 := rd_c3 I
  have c4 := st_c4 I
  obtain ⟨u1, i1, rfl⟩ := isB_ex (n := cP h) (x := y1) (by omega) (by rw [← Inv_m I]; exact v0)
  obtain ⟨u2, i2, rfl⟩ := isB_ex (n := cU h) (x := y2) (by omega) (by rw [← Inv_n I]; exact v1)
  have a := pr_why_11 I hc  i1 i2
  exact c_LW_law_22_11 (y0 := y0) (y1 := nI u1) (y2 := nI u2) (y3 := y3) (y4 := y4) (y5 := y5)
    (n0 := s1)
    (n1 := s2)
    (hP := Inv_pok I)
    (hR := Inv_R I)
    (hZ := Inv_ZM I hc)
    (hU := Inv_uok I)
    (n6 := st_p1 I a.1.1 i1)
    (n7 := st_u1 I a.1.1 i2)
    (n8 := a.1.2)
    (n9 := nI_pos (by omega))
    (n10 := by rw [nI_clamp (by omega)]; omega)
    (n11 := nI_pos (by omega))
    (n12 := by rw [nI_clamp (by omega)]; omega)
    (e1 := a.2.1)
    (e2 := a.2.2.1)
    (k := by obtain ⟨t1, l1, J⟩ := a.2.2.2; exact k _ _ _ J)
theorem st_22_10 {E : ev_E} {P : Option ev_V ⊕ Nat → ev_H → Prop} {h : ev_H} {c t l i : Nat} {y0 y1 y2 y3 y4 y5 : Int32} (I : Inv h c t l) (hc : c < 512) (s1 : sok E (nI i + 1) y1) (s2 : sok E (nI i + 2) y2) (s3 : sok E (nI i + 3) y3) (s4 : sok E (nI i + 4) y4) (s5 : sok E (nI i + 5) y5) (v0 : ¬ f_TB_isBelow y1 (gI h 0 0 4) = 0) (v1 : f_TB_isBelow y2 (gI h 0 0 3) = 0) (k : Kp E P i (c + 1)) : Ev E M_LW_law 1664 [(0, vR 5 0), (1, vR 0 0), (2, vR 0 6), (3, vR 0 27), (4, vI (nI i))] [] h P := by
  have b48 := Inv_48 I
  have b10 := Inv_10 I
  have c3 := rd_c3 I
  have c4 := st_c4 I
  obtain ⟨u1, i1, e1⟩ := isB_ex (n := cP h) (x := y1) (by omega) (by rw [← Inv_m I]; exact v0)
  have a := pr_why_10 I hc (x1 := y1) (x2 := y2) v0 v1
  exact c_LW_law_22_10 (y0 := y0) (y1 := y1) (y2 := y2) (y3 := y3) (y4 := y4) (y5 := y5)
    (n0 := s1)
    (n1 := s2)
    (hP := Inv_pok I)
    (hR := Inv_R I)
    (hZ := Inv_ZM I hc)
    (hU := Inv_uok I)
    (n6 := by rw [e1] at a ⊢; exact st_p1 I a.1.1 i1)
    (n7 := ((ag_unit I a.1.1 _).trans v1))
    (e1 := a.2.1)
    (e2 := a.2.2.1)
    (k := by obtain ⟨t1, l1, J⟩ := a.2.2.2; exact k _ _ _ J)
theorem st_22_0 {E : ev_E} {P : Option ev_V ⊕ Nat → ev_H → Prop} {h : ev_H} {c t l i : Nat} {y0 y1 y2 y3 y4 y5 : Int32} (I : Inv h c t l) (hc : c < 512) (s1 : sok E (nI i + 1) y1) (s2 : sok E (nI i + 2) y2) (s3 : sok E (nI i + 3) y3) (s4 : sok E (nI i + 4) y4) (s5 : sok E (nI i + 5) y5) (v0 : f_TB_isBelow y1 (gI h 0 0 4) = 0) (k : Kp E P i (c + 1)) : Ev E M_LW_law 1664 [(0, vR 5 0), (1, vR 0 0), (2, vR 0 6), (3, vR 0 27), (4, vI (nI i))] [] h P := by
  have b48 := Inv_48 I
  have b10 := Inv_10 I
  have c3 := rd_c3 I
  have c4 := st_c4 I
  have a := pr_why_0 I hc (x1 := y1) (x2 := y2) v0
  exact c_LW_law_22_0 (y0 := y0) (y1 := y1) (y2 := y2) (y3 := y3) (y4 := y4) (y5 := y5)
    (n0 := s1)
    (n1 := s2)
    (hP := Inv_pok I)
    (hR := Inv_R I)
    (hZ := Inv_ZM I hc)
    (hU := Inv_uok I)
    (n6 := ((ag_pat I a.1.1 _).trans v0))
    (e1 := a.2.1)
    (e2 := a.2.2.1)
    (k := by obtain ⟨t1, l1, J⟩ := a.2.2.2; exact k _ _ _ J)
theorem st_23_1 {E : ev_E} {P : Option ev_V ⊕ Nat → ev_H → Prop} {h : ev_H} {c t l i : Nat} {y0 y1 y2 y3 y4 y5 : Int32} (I : Inv h c t l) (hc : c < 512) (s1 : sok E (nI i + 1) y1) (s2 : sok E (nI i + 2) y2) (s3 : sok E (nI i + 3) y3) (s4 : sok E (nI i + 4) y4) (s5 : sok E (nI i + 5) y5) (v0 : ¬ f_TB_isBelow y1 (gI h 0 0 4) = 0) (k : Kp E P i (c + 1)) : Ev E M_LW_law 1732 [(0, vR 5 0), (1, vR 0 0), (2, vR 0 6), (3, vR 0 27), (4, vI (nI i))] [] h P := by
  have b48 := Inv_48 I
  have b10 := Inv_10 I
  have c3 := rd_c3 I
  have c4 := st_c4 I
  obtain ⟨u1, i1, rfl⟩ := isB_ex (n := cP h) (x := y1) (by omega) (by rw [← Inv_m I]; exact v0)
  have a := pr_offer_1 I hc (x2 := y2) (x3 := y3) i1
  exact c_LW_law_23_1 (y0 := y0) (y1 := nI u1) (y2 := y2) (y3 := y3) (y4 := y4) (y5 := y5)
    (n0 := s1)
    (n1 := s2)
    (n2 := s3)
    (hP := Inv_pok I)
    (hR := Inv_R I)
    (hZ := Inv_ZM I hc)
    (n6 := by rw [c3]; omega)
    (n7 := fun b hb => by rw [c3] at hb ⊢; exact lp_3 I (Rk_of b (by omega)))
    (n8 := fun b hb => by rw [c3] at hb; exact lp_R I (Rk_of b (by omega)))
    (n9 := fun b hb => by rw [c3] at hb; exact lp_g I (Rk_of b (by omega)) hb)
    (n10 := fun b hb => by rw [c3] at hb; exact (lp_s (Rk_of b (by omega)) (by omega)).1)
    (n11 := fun b hb => by rw [c3] at hb; exact Nat.lt_of_le_of_lt (lp_s (h := h) (Rk_of b (by omega)) (by omega)).2.1 (by omega))
    (n12 := by rw [c3]; exact lp_R I (Rk_of (cU h) (by omega)))
    (n13 := by rw [c3]; exact (lp_s (Rk_of (cU h) (by omega)) (by omega)).2.2)
    (n14 := st_p1 I a.1.1 i1)
    (n15 := by rw [rd_c2 I a.1.1]; omega)
    (n16 := by rw [rd_c2 I a.1.1]; exact st_n2 I a.1.1)
    (n17 := a.1.2)
    (n18 := nI_pos (by omega))
    (n19 := by rw [nI_clamp (by omega)]; omega)
    (e1 := a.2.1)
    (e2 := a.2.2.1)
    (k := by obtain ⟨t1, l1, J⟩ := a.2.2.2; exact k _ _ _ J)
theorem st_23_0 {E : ev_E} {P : Option ev_V ⊕ Nat → ev_H → Prop} {h : ev_H} {c t l i : Nat} {y0 y1 y2 y3 y4 y5 : Int32} (I : Inv h c t l) (hc : c < 512) (s1 : sok E (nI i + 1) y1) (s2 : sok E (nI i + 2) y2) (s3 : sok E (nI i + 3) y3) (s4 : sok E (nI i + 4) y4) (s5 : sok E (nI i + 5) y5) (v0 : f_TB_isBelow y1 (gI h 0 0 4) = 0) (k : Kp E P i (c + 1)) : Ev E M_LW_law 1732 [(0, vR 5 0), (1, vR 0 0), (2, vR 0 6), (3, vR 0 27), (4, vI (nI i))] [] h P := by
  have b48 := Inv_48 I
  have b10 := Inv_10 I
  have c3 := rd_c3 I
  have c4 := st_c4 I
  have a := pr_offer_0 I hc (x1 := y1) (x2 := y2) (x3 := y3) v0
  exact c_LW_law_23_0 (y0 := y0) (y1 := y1) (y2 := y2) (y3 := y3) (y4 := y4) (y5 := y5)
    (n0 := s1)
    (n1 := s2)
    (n2 := s3)
    (hP := Inv_pok I)
    (hR := Inv_R I)
    (hZ := Inv_ZM I hc)
    (n6 := by rw [c3]; omega)
    (n7 := fun b hb => by rw [c3] at hb ⊢; exact lp_3 I (Rk_of b (by omega)))
    (n8 := fun b hb => by rw [c3] at hb; exact lp_R I (Rk_of b (by omega)))
    (n9 := fun b hb => by rw [c3] at hb; exact lp_g I (Rk_of b (by omega)) hb)
    (n10 := fun b hb => by rw [c3] at hb; exact (lp_s (Rk_of b (by omega)) (by omega)).1)
    (n11 := fun b hb => by rw [c3] at hb; exact Nat.lt_of_le_of_lt (lp_s (h := h) (Rk_of b (by omega)) (by omega)).2.1 (by omega))
    (n12 := by rw [c3]; exact lp_R I (Rk_of (cU h) (by omega)))
    (n13 := by rw [c3]; exact (lp_s (Rk_of (cU h) (by omega)) (by omega)).2.2)
    (n14 := ((ag_pat I a.1.1 _).trans v0))
    (e1 := a.2.1)
    (e2 := a.2.2.1)
    (k := by obtain ⟨t1, l1, J⟩ := a.2.2.2; exact k _ _ _ J)
theorem st_24 {E : ev_E} {P : Option ev_V ⊕ Nat → ev_H → Prop} {h : ev_H} {c t l i : Nat} {y0 y1 y2 y3 y4 y5 : Int32} (I : Inv h c t l) (hc : c < 512) (s1 : sok E (nI i + 1) y1) (s2 : sok E (nI i + 2) y2) (s3 : sok E (nI i + 3) y3) (s4 : sok E (nI i + 4) y4) (s5 : sok E (nI i + 5) y5)  (k : Kp E P i (c + 1)) : Ev E M_LW_law 1812 [(0, vR 5 0), (1, vR 0 0), (2, vR 0 6), (3, vR 0 27), (4, vI (nI i))] [] h P := by
  have b48 := Inv_48 I
  have b10 := Inv_10 I
  have c3 := rd_c3 I
  have c4 := st_c4 I
  have a := pr_stock I hc (x1 := y1) (x2 := y2) (x3 := y3)
  exact c_LW_law_24 (y0 := y0) (y1 := y1) (y2 := y2) (y3 := y3) (y4 := y4) (y5 := y5)
    (n0 := s1)
    (n1 := s2)
    (n2 := s3)
    (hZ := Inv_ZM I hc)
    (n4 := by rw [c3]; omega)
    (n5 := by rw [c3]; exact Inv_n I)
    (hR := Inv_R I)
    (n7 := fun b hb => st_g I (by rw [c3] at hb; exact hb))
    (n8 := by rw [rd_c2 I a.1.1]; omega)
    (n9 := by rw [rd_c2 I a.1.1]; exact st_n2 I a.1.1)
    (n10 := a.1.2)
    (e1 := a.2.1)
    (e2 := a.2.2.1)
    (k := by obtain ⟨t1, l1, J⟩ := a.2.2.2; exact k _ _ _ J)
theorem st_25 {E : ev_E} {P : Option ev_V ⊕ Nat → ev_H → Prop} {h : ev_H} {c t l i : Nat} {y0 y1 y2 y3 y4 y5 : Int32} (I : Inv h c t l) (hc : c < 512) (s1 : sok E (nI i + 1) y1) (s2 : sok E (nI i + 2) y2) (s3 : sok E (nI i + 3) y3) (s4 : sok E (nI i + 4) y4) (s5 : sok E (nI i + 5) y5)  (k : Kp E P i (c + 1)) : Ev E M_LW_law 1892 [(0, vR 5 0), (1, vR 0 0), (2, vR 0 6), (3, vR 0 27), (4, vI (nI i))] [] h P := by
  have b48 := Inv_48 I
  have b10 := Inv_10 I
  have c3 := rd_c3 I
  have c4 := st_c4 I
  have a := pr_expiring I hc (x1 := y1) (x2 := y2)
  exact c_LW_law_25 (y0 := y0) (y1 := y1) (y2 := y2) (y3 := y3) (y4 := y4) (y5 := y5)
    (n0 := s1)
    (n1 := s2)
    (hZ := Inv_ZM I hc)
    (hR := Inv_R I)
    (n4 := by rw [c3]; omega)
    (n5 := fun b hb => by rw [c3] at hb ⊢; exact lp_3 I (Rk_ex b (by omega)))
    (n6 := fun b hb => by rw [c3] at hb; exact lp_R I (Rk_ex b (by omega)))
    (n7 := fun b hb => by rw [c3] at hb; exact lp_g I (Rk_ex b (by omega)) hb)
    (n8 := fun b hb => by rw [c3] at hb; exact (lp_s (Rk_ex b (by omega)) (by omega)).1)
    (n9 := fun b hb => by rw [c3] at hb; exact Nat.lt_of_le_of_lt (lp_s (h := h) (Rk_ex b (by omega)) (by omega)).2.1 (by omega))
    (n10 := by rw [c3]; exact lp_R I (Rk_ex (cU h) (by omega)))
    (n11 := by rw [c3]; exact (lp_s (Rk_ex (cU h) (by omega)) (by omega)).2.2)
    (n12 := by rw [rd_c2 I a.1.1]; omega)
    (n13 := by rw [rd_c2 I a.1.1]; exact st_n2 I a.1.1)
    (n14 := a.1.2)
    (e1 := a.2.1)
    (e2 := a.2.2.1)
    (k := by obtain ⟨t1, l1, J⟩ := a.2.2.2; exact k _ _ _ J)
theorem st_26 {E : ev_E} {P : Option ev_V ⊕ Nat → ev_H → Prop} {h : ev_H} {c t l i : Nat} {y0 y1 y2 y3 y4 y5 : Int32} (I : Inv h c t l) (hc : c < 512) (s1 : sok E (nI i + 1) y1) (s2 : sok E (nI i + 2) y2) (s3 : sok E (nI i + 3) y3) (s4 : sok E (nI i + 4) y4) (s5 : sok E (nI i + 5) y5)  (k : Kp E P i (c + 1)) : Ev E M_LW_law 1960 [(0, vR 5 0), (1, vR 0 0), (2, vR 0 6), (3, vR 0 27), (4, vI (nI i))] [] h P := by
  have b48 := Inv_48 I
  have b10 := Inv_10 I
  have c3 := rd_c3 I
  have c4 := st_c4 I
  have a := pr_lookback I hc (x1 := y1) (x2 := y2)
  exact c_LW_law_26 (y0 := y0) (y1 := y1) (y2 := y2) (y3 := y3) (y4 := y4) (y5 := y5)
    (n0 := s1)
    (n1 := s2)
    (hR := Inv_R I)
    (n3 := by rw [c4]; omega)
    (n4 := fun b hb => by rw [c4] at hb ⊢; exact lp_4 I (Rk_lb b (by omega)))
    (n5 := fun b hb => by rw [c4] at hb; rw [lp_c I (Rk_lb b (by omega))]; omega)
    (n6 := fun b hb => by rw [c4] at hb; rw [lp_c I (Rk_lb b (by omega))]; exact lp_3 I (Rk_lb b (by omega)))
    (n7 := fun b hb => by rw [c4] at hb; exact lp_R I (Rk_lb b (by omega)))
    (n8 := fun a ha b hb => by rw [c4] at ha; rw [lp_c I (Rk_lb a (by omega))] at hb; exact lp_g I (Rk_lb a (by omega)) hb)
    (n9 := fun b hb => by rw [c4] at hb; exact (lp_s (Rk_lb b (by omega)) (by omega)).1)
    (n10 := fun b hb => by rw [c4] at hb; exact Nat.lt_of_le_of_lt (lp_s (h := h) (Rk_lb b (by omega)) (by omega)).2.1 (by omega))
    (n11 := by rw [c4]; exact lp_R I (Rk_lb (cP h) (by omega)))
    (n12 := by rw [c4]; exact (lp_s (Rk_lb (cP h) (by omega)) (by omega)).2.2)
    (hZ := Inv_ZM I hc)
    (n14 := by rw [rd_c19 I a.1.1]; omega)
    (n15 := by rw [rd_c19 I a.1.1]; exact st_m2 I a.1.1)
    (n16 := by rw [rd_c2 I a.1.1]; omega)
    (n17 := by rw [rd_c2 I a.1.1]; exact st_n2 I a.1.1)
    (n18 := a.1.2)
    (e1 := a.2.1)
    (e2 := a.2.2.1)
    (k := by obtain ⟨t1, l1, J⟩ := a.2.2.2; exact k _ _ _ J)
theorem st_27_1 {E : ev_E} {P : Option ev_V ⊕ Nat → ev_H → Prop} {h : ev_H} {c t l i : Nat} {y0 y1 y2 y3 y4 y5 : Int32} (I : Inv h c t l) (hc : c < 512) (s1 : sok E (nI i + 1) y1) (s2 : sok E (nI i + 2) y2) (s3 : sok E (nI i + 3) y3) (s4 : sok E (nI i + 4) y4) (s5 : sok E (nI i + 5) y5) (v0 : ¬ f_TB_isBelow y1 (gI h 0 0 4) = 0) (k : Kp E P i (c + 1)) : Ev E M_LW_law 2028 [(0, vR 5 0), (1, vR 0 0), (2, vR 0 6), (3, vR 0 27), (4, vI (nI i))] [] h P := by
  have b48 := Inv_48 I
  have b10 := Inv_10 I
  have c3 := rd_c3 I
  have c4 := st_c4 I
  obtain ⟨u1, i1, rfl⟩ := isB_ex (n := cP h) (x := y1) (by omega) (by rw [← Inv_m I]; exact v0)
  have a := pr_received_1 I hc (x2 := y2) i1
  exact c_LW_law_27_1 (y0 := y0) (y1 := nI u1) (y2 := y2) (y3 := y3) (y4 := y4) (y5 := y5)
    (n0 := s1)
    (n1 := s2)
    (hP := Inv_pok I)
    (hR := Inv_R I)
    (hZ := Inv_ZM I hc)
    (n5 := by rw [c3]; omega)
    (n6 := fun b hb => by rw [c3] at hb ⊢; exact lp_3 I (Rk_re I b (by omega)))
    (n7 := fun b hb => by rw [c3] at hb; exact lp_R I (Rk_re I b (by omega)))
    (n8 := fun b hb => by rw [c3] at hb; exact lp_g I (Rk_re I b (by omega)) hb)
    (n9 := fun b hb => by rw [c3] at hb; exact (lp_s (Rk_re I b (by omega)) (by omega)).1)
    (n10 := fun b hb => by rw [c3] at hb; exact Nat.lt_of_le_of_lt (lp_s (h := h) (Rk_re I b (by omega)) (by omega)).2.1 (by omega))
    (n11 := by rw [c3]; exact lp_R I (Rk_re I (cU h) (by omega)))
    (n12 := by rw [c3]; exact (lp_s (Rk_re I (cU h) (by omega)) (by omega)).2.2)
    (n13 := st_p1 I a.1.1 i1)
    (n14 := by rw [rd_c2 I a.1.1]; omega)
    (n15 := by rw [rd_c2 I a.1.1]; exact st_n2 I a.1.1)
    (n16 := a.1.2)
    (e1 := a.2.1)
    (e2 := a.2.2.1)
    (k := by obtain ⟨t1, l1, J⟩ := a.2.2.2; exact k _ _ _ J)
theorem st_27_0 {E : ev_E} {P : Option ev_V ⊕ Nat → ev_H → Prop} {h : ev_H} {c t l i : Nat} {y0 y1 y2 y3 y4 y5 : Int32} (I : Inv h c t l) (hc : c < 512) (s1 : sok E (nI i + 1) y1) (s2 : sok E (nI i + 2) y2) (s3 : sok E (nI i + 3) y3) (s4 : sok E (nI i + 4) y4) (s5 : sok E (nI i + 5) y5) (v0 : f_TB_isBelow y1 (gI h 0 0 4) = 0) (k : Kp E P i (c + 1)) : Ev E M_LW_law 2028 [(0, vR 5 0), (1, vR 0 0), (2, vR 0 6), (3, vR 0 27), (4, vI (nI i))] [] h P := by
  have b48 := Inv_48 I
  have b10 := Inv_10 I
  have c3 := rd_c3 I
  have c4 := st_c4 I
  have a := pr_received_0 I hc (x1 := y1) (x2 := y2) v0
  exact c_LW_law_27_0 (y0 := y0) (y1 := y1) (y2 := y2) (y3 := y3) (y4 := y4) (y5 := y5)
    (n0 := s1)
    (n1 := s2)
    (hP := Inv_pok I)
    (hR := Inv_R I)
    (hZ := Inv_ZM I hc)
    (n5 := by rw [c3]; omega)
    (n6 := fun b hb => by rw [c3] at hb ⊢; exact lp_3 I (Rk_re I b (by omega)))
    (n7 := fun b hb => by rw [c3] at hb; exact lp_R I (Rk_re I b (by omega)))
    (n8 := fun b hb => by rw [c3] at hb; exact lp_g I (Rk_re I b (by omega)) hb)
    (n9 := fun b hb => by rw [c3] at hb; exact (lp_s (Rk_re I b (by omega)) (by omega)).1)
    (n10 := fun b hb => by rw [c3] at hb; exact Nat.lt_of_le_of_lt (lp_s (h := h) (Rk_re I b (by omega)) (by omega)).2.1 (by omega))
    (n11 := by rw [c3]; exact lp_R I (Rk_re I (cU h) (by omega)))
    (n12 := by rw [c3]; exact (lp_s (Rk_re I (cU h) (by omega)) (by omega)).2.2)
    (n13 := ((ag_pat I a.1.1 _).trans v0))
    (e1 := a.2.1)
    (e2 := a.2.2.1)
    (k := by obtain ⟨t1, l1, J⟩ := a.2.2.2; exact k _ _ _ J)
theorem st_28 {E : ev_E} {P : Option ev_V ⊕ Nat → ev_H → Prop} {h : ev_H} {c t l i : Nat} {y0 y1 y2 y3 y4 y5 : Int32} (I : Inv h c t l) (hc : c < 512) (s1 : sok E (nI i + 1) y1) (s2 : sok E (nI i + 2) y2) (s3 : sok E (nI i + 3) y3) (s4 : sok E (nI i + 4) y4) (s5 : sok E (nI i + 5) y5)  (k : Kp E P i (c + 1)) : Ev E M_LW_law 2096 [(0, vR 5 0), (1, vR 0 0), (2, vR 0 6), (3, vR 0 27), (4, vI (nI i))] [] h P := by
  have b48 := Inv_48 I
  have b10 := Inv_10 I
  have c3 := rd_c3 I
  have c4 := st_c4 I
  have a := pr_count I hc (x1 := y1) (x2 := y2)
  exact c_LW_law_28 (y0 := y0) (y1 := y1) (y2 := y2) (y3 := y3) (y4 := y4) (y5 := y5)
    (n0 := s1)
    (n1 := s2)
    (hZ := Inv_ZM I hc)
    (n3 := by rw [c3]; omega)
    (n4 := by rw [c3]; exact Inv_n I)
    (hR := Inv_R I)
    (n6 := fun b hb => st_g I (by rw [c3] at hb; exact hb))
    (n7 := by rw [rd_c2 I a.1.1]; omega)
    (n8 := by rw [rd_c2 I a.1.1]; exact st_n2 I a.1.1)
    (n9 := a.1.2)
    (e1 := a.2.1)
    (e2 := a.2.2.1)
    (k := by obtain ⟨t1, l1, J⟩ := a.2.2.2; exact k _ _ _ J)
theorem sp_0 {E : ev_E} {P : Option ev_V ⊕ Nat → ev_H → Prop} {h : ev_H} {c t l i : Nat} {y0 y1 y2 y3 y4 y5 : Int32} (I : Inv h c t l) (hc : c < 512) (s1 : sok E (nI i + 1) y1) (s2 : sok E (nI i + 2) y2) (s3 : sok E (nI i + 3) y3) (s4 : sok E (nI i + 4) y4) (s5 : sok E (nI i + 5) y5) (k : Kp E P i (c + 1)) : Ev E M_LW_law 172 [(0, vR 5 0), (1, vR 0 0), (2, vR 0 6), (3, vR 0 27), (4, vI (nI i))] [] h P := st_0 (y0 := y0) I hc s1 s2 s3 s4 s5 k
theorem sp_1 {E : ev_E} {P : Option ev_V ⊕ Nat → ev_H → Prop} {h : ev_H} {c t l i : Nat} {y0 y1 y2 y3 y4 y5 : Int32} (I : Inv h c t l) (hc : c < 512) (s1 : sok E (nI i + 1) y1) (s2 : sok E (nI i + 2) y2) (s3 : sok E (nI i + 3) y3) (s4 : sok E (nI i + 4) y4) (s5 : sok E (nI i + 5) y5) (k : Kp E P i (c + 1)) : Ev E M_LW_law 228 [(0, vR 5 0), (1, vR 0 0), (2, vR 0 6), (3, vR 0 27), (4, vI (nI i))] [] h P := st_1 (y0 := y0) I hc s1 s2 s3 s4 s5 k
theorem sp_2 {E : ev_E} {P : Option ev_V ⊕ Nat → ev_H → Prop} {h : ev_H} {c t l i : Nat} {y0 y1 y2 y3 y4 y5 : Int32} (I : Inv h c t l) (hc : c < 512) (s1 : sok E (nI i + 1) y1) (s2 : sok E (nI i + 2) y2) (s3 : sok E (nI i + 3) y3) (s4 : sok E (nI i + 4) y4) (s5 : sok E (nI i + 5) y5) (k : Kp E P i (c + 1)) : Ev E M_LW_law 332 [(0, vR 5 0), (1, vR 0 0), (2, vR 0 6), (3, vR 0 27), (4, vI (nI i))] [] h P := by
  by_cases v0 : f_TB_isBelow y1 (gI h 0 0 3) = 0
  · exact st_2_0 (y0 := y0) I hc s1 s2 s3 s4 s5 v0 k
  · exact st_2_1 (y0 := y0) I hc s1 s2 s3 s4 s5 v0 k
theorem sp_3 {E : ev_E} {P : Option ev_V ⊕ Nat → ev_H → Prop} {h : ev_H} {c t l i : Nat} {y0 y1 y2 y3 y4 y5 : Int32} (I : Inv h c t l) (hc : c < 512) (s1 : sok E (nI i + 1) y1) (s2 : sok E (nI i + 2) y2) (s3 : sok E (nI i + 3) y3) (s4 : sok E (nI i + 4) y4) (s5 : sok E (nI i + 5) y5) (k : Kp E P i (c + 1)) : Ev E M_LW_law 392 [(0, vR 5 0), (1, vR 0 0), (2, vR 0 6), (3, vR 0 27), (4, vI (nI i))] [] h P := by
  by_cases v0 : f_TB_isBelow y1 (gI h 0 0 3) = 0
  · exact st_3_0 (y0 := y0) I hc s1 s2 s3 s4 s5 v0 k
  · exact st_3_1 (y0 := y0) I hc s1 s2 s3 s4 s5 v0 k
theorem sp_4 {E : ev_E} {P : Option ev_V ⊕ Nat → ev_H → Prop} {h : ev_H} {c t l i : Nat} {y0 y1 y2 y3 y4 y5 : Int32} (I : Inv h c t l) (hc : c < 512) (s1 : sok E (nI i + 1) y1) (s2 : sok E (nI i + 2) y2) (s3 : sok E (nI i + 3) y3) (s4 : sok E (nI i + 4) y4) (s5 : sok E (nI i + 5) y5) (k : Kp E P i (c + 1)) : Ev E M_LW_law 460 [(0, vR 5 0), (1, vR 0 0), (2, vR 0 6), (3, vR 0 27), (4, vI (nI i))] [] h P := by
  by_cases v0 : f_TB_isBelow y1 (gI h 0 0 3) = 0
  · exact st_4_0 (y0 := y0) I hc s1 s2 s3 s4 s5 v0 k
  · by_cases v1 : f_TB_isBelow y2 (gI h 0 0 3) = 0
    · exact st_4_10 (y0 := y0) I hc s1 s2 s3 s4 s5 v0 v1 k
    · exact st_4_11 (y0 := y0) I hc s1 s2 s3 s4 s5 v0 v1 k
theorem sp_5 {E : ev_E} {P : Option ev_V ⊕ Nat → ev_H → Prop} {h : ev_H} {c t l i : Nat} {y0 y1 y2 y3 y4 y5 : Int32} (I : Inv h c t l) (hc : c < 512) (s1 : sok E (nI i + 1) y1) (s2 : sok E (nI i + 2) y2) (s3 : sok E (nI i + 3) y3) (s4 : sok E (nI i + 4) y4) (s5 : sok E (nI i + 5) y5) (k : Kp E P i (c + 1)) : Ev E M_LW_law 528 [(0, vR 5 0), (1, vR 0 0), (2, vR 0 6), (3, vR 0 27), (4, vI (nI i))] [] h P := st_5 (y0 := y0) I hc s1 s2 s3 s4 s5 k
theorem sp_6 {E : ev_E} {P : Option ev_V ⊕ Nat → ev_H → Prop} {h : ev_H} {c t l i : Nat} {y0 y1 y2 y3 y4 y5 : Int32} (I : Inv h c t l) (hc : c < 512) (s1 : sok E (nI i + 1) y1) (s2 : sok E (nI i + 2) y2) (s3 : sok E (nI i + 3) y3) (s4 : sok E (nI i + 4) y4) (s5 : sok E (nI i + 5) y5) (k : Kp E P i (c + 1)) : Ev E M_LW_law 572 [(0, vR 5 0), (1, vR 0 0), (2, vR 0 6), (3, vR 0 27), (4, vI (nI i))] [] h P := by
  by_cases v0 : f_TB_isBelow y1 (gI h 0 0 4) = 0
  · exact st_6_0 (y0 := y0) I hc s1 s2 s3 s4 s5 v0 k
  · exact st_6_1 (y0 := y0) I hc s1 s2 s3 s4 s5 v0 k
theorem sp_7 {E : ev_E} {P : Option ev_V ⊕ Nat → ev_H → Prop} {h : ev_H} {c t l i : Nat} {y0 y1 y2 y3 y4 y5 : Int32} (I : Inv h c t l) (hc : c < 512) (s1 : sok E (nI i + 1) y1) (s2 : sok E (nI i + 2) y2) (s3 : sok E (nI i + 3) y3) (s4 : sok E (nI i + 4) y4) (s5 : sok E (nI i + 5) y5) (k : Kp E P i (c + 1)) : Ev E M_LW_law 652 [(0, vR 5 0), (1, vR 0 0), (2, vR 0 6), (3, vR 0 27), (4, vI (nI i))] [] h P := by
  by_cases v0 : f_TB_isBelow y1 (gI h 0 0 4) = 0
  · exact st_7_0 (y0 := y0) I hc s1 s2 s3 s4 s5 v0 k
  · exact st_7_1 (y0 := y0) I hc s1 s2 s3 s4 s5 v0 k
theorem sp_8 {E : ev_E} {P : Option ev_V ⊕ Nat → ev_H → Prop} {h : ev_H} {c t l i : Nat} {y0 y1 y2 y3 y4 y5 : Int32} (I : Inv h c t l) (hc : c < 512) (s1 : sok E (nI i + 1) y1) (s2 : sok E (nI i + 2) y2) (s3 : sok E (nI i + 3) y3) (s4 : sok E (nI i + 4) y4) (s5 : sok E (nI i + 5) y5) (k : Kp E P i (c + 1)) : Ev E M_LW_law 712 [(0, vR 5 0), (1, vR 0 0), (2, vR 0 6), (3, vR 0 27), (4, vI (nI i))] [] h P := by
  by_cases v0 : f_TB_isBelow y1 (gI h 0 0 4) = 0
  · exact st_8_0 (y0 := y0) I hc s1 s2 s3 s4 s5 v0 k
  · exact st_8_1 (y0 := y0) I hc s1 s2 s3 s4 s5 v0 k
theorem sp_9 {E : ev_E} {P : Option ev_V ⊕ Nat → ev_H → Prop} {h : ev_H} {c t l i : Nat} {y0 y1 y2 y3 y4 y5 : Int32} (I : Inv h c t l) (hc : c < 512) (s1 : sok E (nI i + 1) y1) (s2 : sok E (nI i + 2) y2) (s3 : sok E (nI i + 3) y3) (s4 : sok E (nI i + 4) y4) (s5 : sok E (nI i + 5) y5) (k : Kp E P i (c + 1)) : Ev E M_LW_law 780 [(0, vR 5 0), (1, vR 0 0), (2, vR 0 6), (3, vR 0 27), (4, vI (nI i))] [] h P := by
  by_cases v0 : f_TB_isBelow y1 (gI h 0 0 4) = 0
  · exact st_9_0 (y0 := y0) I hc s1 s2 s3 s4 s5 v0 k
  · exact st_9_1 (y0 := y0) I hc s1 s2 s3 s4 s5 v0 k
theorem sp_10 {E : ev_E} {P : Option ev_V ⊕ Nat → ev_H → Prop} {h : ev_H} {c t l i : Nat} {y0 y1 y2 y3 y4 y5 : Int32} (I : Inv h c t l) (hc : c < 512) (s1 : sok E (nI i + 1) y1) (s2 : sok E (nI i + 2) y2) (s3 : sok E (nI i + 3) y3) (s4 : sok E (nI i + 4) y4) (s5 : sok E (nI i + 5) y5) (k : Kp E P i (c + 1)) : Ev E M_LW_law 848 [(0, vR 5 0), (1, vR 0 0), (2, vR 0 6), (3, vR 0 27), (4, vI (nI i))] [] h P := by
  by_cases v0 : f_TB_isBelow y1 (gI h 0 0 4) = 0
  · exact st_10_0 (y0 := y0) I hc s1 s2 s3 s4 s5 v0 k
  · by_cases v1 : f_TB_isBelow y2 (gI h 0 0 3) = 0
    · exact st_10_10 (y0 := y0) I hc s1 s2 s3 s4 s5 v0 v1 k
    · exact st_10_11 (y0 := y0) I hc s1 s2 s3 s4 s5 v0 v1 k
theorem sp_11 {E : ev_E} {P : Option ev_V ⊕ Nat → ev_H → Prop} {h : ev_H} {c t l i : Nat} {y0 y1 y2 y3 y4 y5 : Int32} (I : Inv h c t l) (hc : c < 512) (s1 : sok E (nI i + 1) y1) (s2 : sok E (nI i + 2) y2) (s3 : sok E (nI i + 3) y3) (s4 : sok E (nI i + 4) y4) (s5 : sok E (nI i + 5) y5) (k : Kp E P i (c + 1)) : Ev E M_LW_law 924 [(0, vR 5 0), (1, vR 0 0), (2, vR 0 6), (3, vR 0 27), (4, vI (nI i))] [] h P := by
  by_cases v0 : f_TB_isBelow y1 (gI h 0 0 4) = 0
  · exact st_11_0 (y0 := y0) I hc s1 s2 s3 s4 s5 v0 k
  · by_cases v1 : f_TB_isBelow y2 (gI h 0 0 3) = 0
    · exact st_11_10 (y0 := y0) I hc s1 s2 s3 s4 s5 v0 v1 k
    · exact st_11_11 (y0 := y0) I hc s1 s2 s3 s4 s5 v0 v1 k
theorem sp_12 {E : ev_E} {P : Option ev_V ⊕ Nat → ev_H → Prop} {h : ev_H} {c t l i : Nat} {y0 y1 y2 y3 y4 y5 : Int32} (I : Inv h c t l) (hc : c < 512) (s1 : sok E (nI i + 1) y1) (s2 : sok E (nI i + 2) y2) (s3 : sok E (nI i + 3) y3) (s4 : sok E (nI i + 4) y4) (s5 : sok E (nI i + 5) y5) (k : Kp E P i (c + 1)) : Ev E M_LW_law 992 [(0, vR 5 0), (1, vR 0 0), (2, vR 0 6), (3, vR 0 27), (4, vI (nI i))] [] h P := by
  by_cases v0 : f_TB_isBelow y1 (gI h 0 0 3) = 0
  · exact st_12_0 (y0 := y0) I hc s1 s2 s3 s4 s5 v0 k
  · exact st_12_1 (y0 := y0) I hc s1 s2 s3 s4 s5 v0 k
theorem sp_13 {E : ev_E} {P : Option ev_V ⊕ Nat → ev_H → Prop} {h : ev_H} {c t l i : Nat} {y0 y1 y2 y3 y4 y5 : Int32} (I : Inv h c t l) (hc : c < 512) (s1 : sok E (nI i + 1) y1) (s2 : sok E (nI i + 2) y2) (s3 : sok E (nI i + 3) y3) (s4 : sok E (nI i + 4) y4) (s5 : sok E (nI i + 5) y5) (k : Kp E P i (c + 1)) : Ev E M_LW_law 1048 [(0, vR 5 0), (1, vR 0 0), (2, vR 0 6), (3, vR 0 27), (4, vI (nI i))] [] h P := by
  by_cases v0 : f_TB_isBelow y1 (gI h 0 0 4) = 0
  · exact st_13_0 (y0 := y0) I hc s1 s2 s3 s4 s5 v0 k
  · by_cases v1 : f_TB_isBelow y2 (gI h 0 0 3) = 0
    · exact st_13_10 (y0 := y0) I hc s1 s2 s3 s4 s5 v0 v1 k
    · exact st_13_11 (y0 := y0) I hc s1 s2 s3 s4 s5 v0 v1 k
theorem sp_14 {E : ev_E} {P : Option ev_V ⊕ Nat → ev_H → Prop} {h : ev_H} {c t l i : Nat} {y0 y1 y2 y3 y4 y5 : Int32} (I : Inv h c t l) (hc : c < 512) (s1 : sok E (nI i + 1) y1) (s2 : sok E (nI i + 2) y2) (s3 : sok E (nI i + 3) y3) (s4 : sok E (nI i + 4) y4) (s5 : sok E (nI i + 5) y5) (k : Kp E P i (c + 1)) : Ev E M_LW_law 1116 [(0, vR 5 0), (1, vR 0 0), (2, vR 0 6), (3, vR 0 27), (4, vI (nI i))] [] h P := by
  by_cases v0 : f_TB_isBelow y1 (gI h 0 0 4) = 0
  · exact st_14_0 (y0 := y0) I hc s1 s2 s3 s4 s5 v0 k
  · by_cases v1 : f_TB_isBelow y2 (gI h 0 0 3) = 0
    · exact st_14_10 (y0 := y0) I hc s1 s2 s3 s4 s5 v0 v1 k
    · exact st_14_11 (y0 := y0) I hc s1 s2 s3 s4 s5 v0 v1 k
theorem sp_15 {E : ev_E} {P : Option ev_V ⊕ Nat → ev_H → Prop} {h : ev_H} {c t l i : Nat} {y0 y1 y2 y3 y4 y5 : Int32} (I : Inv h c t l) (hc : c < 512) (s1 : sok E (nI i + 1) y1) (s2 : sok E (nI i + 2) y2) (s3 : sok E (nI i + 3) y3) (s4 : sok E (nI i + 4) y4) (s5 : sok E (nI i + 5) y5) (k : Kp E P i (c + 1)) : Ev E M_LW_law 1196 [(0, vR 5 0), (1, vR 0 0), (2, vR 0 6), (3, vR 0 27), (4, vI (nI i))] [] h P := by
  by_cases v0 : f_TB_isBelow y1 (gI h 0 0 3) = 0
  · exact st_15_0 (y0 := y0) I hc s1 s2 s3 s4 s5 v0 k
  · exact st_15_1 (y0 := y0) I hc s1 s2 s3 s4 s5 v0 k
theorem sp_16 {E : ev_E} {P : Option ev_V ⊕ Nat → ev_H → Prop} {h : ev_H} {c t l i : Nat} {y0 y1 y2 y3 y4 y5 : Int32} (I : Inv h c t l) (hc : c < 512) (s1 : sok E (nI i + 1) y1) (s2 : sok E (nI i + 2) y2) (s3 : sok E (nI i + 3) y3) (s4 : sok E (nI i + 4) y4) (s5 : sok E (nI i + 5) y5) (k : Kp E P i (c + 1)) : Ev E M_LW_law 1252 [(0, vR 5 0), (1, vR 0 0), (2, vR 0 6), (3, vR 0 27), (4, vI (nI i))] [] h P := by
  by_cases v0 : f_TB_isBelow y1 (gI h 0 0 3) = 0
  · exact st_16_0 (y0 := y0) I hc s1 s2 s3 s4 s5 v0 k
  · exact st_16_1 (y0 := y0) I hc s1 s2 s3 s4 s5 v0 k
theorem sp_17 {E : ev_E} {P : Option ev_V ⊕ Nat → ev_H → Prop} {h : ev_H} {c t l i : Nat} {y0 y1 y2 y3 y4 y5 : Int32} (I : Inv h c t l) (hc : c < 512) (s1 : sok E (nI i + 1) y1) (s2 : sok E (nI i + 2) y2) (s3 : sok E (nI i + 3) y3) (s4 : sok E (nI i + 4) y4) (s5 : sok E (nI i + 5) y5) (k : Kp E P i (c + 1)) : Ev E M_LW_law 1308 [(0, vR 5 0), (1, vR 0 0), (2, vR 0 6), (3, vR 0 27), (4, vI (nI i))] [] h P := by
  by_cases v0 : f_TB_isBelow y1 (gI h 0 0 3) = 0
  · exact st_17_0 (y0 := y0) I hc s1 s2 s3 s4 s5 v0 k
  · exact st_17_1 (y0 := y0) I hc s1 s2 s3 s4 s5 v0 k
theorem sp_18 {E : ev_E} {P : Option ev_V ⊕ Nat → ev_H → Prop} {h : ev_H} {c t l i : Nat} {y0 y1 y2 y3 y4 y5 : Int32} (I : Inv h c t l) (hc : c < 512) (s1 : sok E (nI i + 1) y1) (s2 : sok E (nI i + 2) y2) (s3 : sok E (nI i + 3) y3) (s4 : sok E (nI i + 4) y4) (s5 : sok E (nI i + 5) y5) (k : Kp E P i (c + 1)) : Ev E M_LW_law 1376 [(0, vR 5 0), (1, vR 0 0), (2, vR 0 6), (3, vR 0 27), (4, vI (nI i))] [] h P := st_18 (y0 := y0) I hc s1 s2 s3 s4 s5 k
theorem sp_19 {E : ev_E} {P : Option ev_V ⊕ Nat → ev_H → Prop} {h : ev_H} {c t l i : Nat} {y0 y1 y2 y3 y4 y5 : Int32} (I : Inv h c t l) (hc : c < 512) (s1 : sok E (nI i + 1) y1) (s2 : sok E (nI i + 2) y2) (s3 : sok E (nI i + 3) y3) (s4 : sok E (nI i + 4) y4) (s5 : sok E (nI i + 5) y5) (k : Kp E P i (c + 1)) : Ev E M_LW_law 1460 [(0, vR 5 0), (1, vR 0 0), (2, vR 0 6), (3, vR 0 27), (4, vI (nI i))] [] h P := by
  by_cases v0 : f_TB_isBelow y1 (gI h 0 0 3) = 0
  · exact st_19_0 (y0 := y0) I hc s1 s2 s3 s4 s5 v0 k
  · exact st_19_1 (y0 := y0) I hc s1 s2 s3 s4 s5 v0 k
theorem sp_20 {E : ev_E} {P : Option ev_V ⊕ Nat → ev_H → Prop} {h : ev_H} {c t l i : Nat} {y0 y1 y2 y3 y4 y5 : Int32} (I : Inv h c t l) (hc : c < 512) (s1 : sok E (nI i + 1) y1) (s2 : sok E (nI i + 2) y2) (s3 : sok E (nI i + 3) y3) (s4 : sok E (nI i + 4) y4) (s5 : sok E (nI i + 5) y5) (k : Kp E P i (c + 1)) : Ev E M_LW_law 1528 [(0, vR 5 0), (1, vR 0 0), (2, vR 0 6), (3, vR 0 27), (4, vI (nI i))] [] h P := by
  by_cases v0 : f_TB_isBelow y1 (gI h 0 0 3) = 0
  · exact st_20_0 (y0 := y0) I hc s1 s2 s3 s4 s5 v0 k
  · exact st_20_1 (y0 := y0) I hc s1 s2 s3 s4 s5 v0 k
theorem sp_21 {E : ev_E} {P : Option ev_V ⊕ Nat → ev_H → Prop} {h : ev_H} {c t l i : Nat} {y0 y1 y2 y3 y4 y5 : Int32} (I : Inv h c t l) (hc : c < 512) (s1 : sok E (nI i + 1) y1) (s2 : sok E (nI i + 2) y2) (s3 : sok E (nI i + 3) y3) (s4 : sok E (nI i + 4) y4) (s5 : sok E (nI i + 5) y5) (k : Kp E P i (c + 1)) : Ev E M_LW_law 1596 [(0, vR 5 0), (1, vR 0 0), (2, vR 0 6), (3, vR 0 27), (4, vI (nI i))] [] h P := by
  by_cases v0 : f_TB_isBelow y1 (gI h 0 0 4) = 0
  · exact st_21_0 (y0 := y0) I hc s1 s2 s3 s4 s5 v0 k
  · exact st_21_1 (y0 := y0) I hc s1 s2 s3 s4 s5 v0 k
theorem sp_22 {E : ev_E} {P : Option ev_V ⊕ Nat → ev_H → Prop} {h : ev_H} {c t l i : Nat} {y0 y1 y2 y3 y4 y5 : Int32} (I : Inv h c t l) (hc : c < 512) (s1 : sok E (nI i + 1) y1) (s2 : sok E (nI i + 2) y2) (s3 : sok E (nI i + 3) y3) (s4 : sok E (nI i + 4) y4) (s5 : sok E (nI i + 5) y5) (k : Kp E P i (c + 1)) : Ev E M_LW_law 1664 [(0, vR 5 0), (1, vR 0 0), (2, vR 0 6), (3, vR 0 27), (4, vI (nI i))] [] h P := by
  by_cases v0 : f_TB_isBelow y1 (gI h 0 0 4) = 0
  · exact st_22_0 (y0 := y0) I hc s1 s2 s3 s4 s5 v0 k
  · by_cases v1 : f_TB_isBelow y2 (gI h 0 0 3) = 0
    · exact st_22_10 (y0 := y0) I hc s1 s2 s3 s4 s5 v0 v1 k
    · exact st_22_11 (y0 := y0) I hc s1 s2 s3 s4 s5 v0 v1 k
theorem sp_23 {E : ev_E} {P : Option ev_V ⊕ Nat → ev_H → Prop} {h : ev_H} {c t l i : Nat} {y0 y1 y2 y3 y4 y5 : Int32} (I : Inv h c t l) (hc : c < 512) (s1 : sok E (nI i + 1) y1) (s2 : sok E (nI i + 2) y2) (s3 : sok E (nI i + 3) y3) (s4 : sok E (nI i + 4) y4) (s5 : sok E (nI i + 5) y5) (k : Kp E P i (c + 1)) : Ev E M_LW_law 1732 [(0, vR 5 0), (1, vR 0 0), (2, vR 0 6), (3, vR 0 27), (4, vI (nI i))] [] h P := by
  by_cases v0 : f_TB_isBelow y1 (gI h 0 0 4) = 0
  · exact st_23_0 (y0 := y0) I hc s1 s2 s3 s4 s5 v0 k
  · exact st_23_1 (y0 := y0) I hc s1 s2 s3 s4 s5 v0 k
theorem sp_24 {E : ev_E} {P : Option ev_V ⊕ Nat → ev_H → Prop} {h : ev_H} {c t l i : Nat} {y0 y1 y2 y3 y4 y5 : Int32} (I : Inv h c t l) (hc : c < 512) (s1 : sok E (nI i + 1) y1) (s2 : sok E (nI i + 2) y2) (s3 : sok E (nI i + 3) y3) (s4 : sok E (nI i + 4) y4) (s5 : sok E (nI i + 5) y5) (k : Kp E P i (c + 1)) : Ev E M_LW_law 1812 [(0, vR 5 0), (1, vR 0 0), (2, vR 0 6), (3, vR 0 27), (4, vI (nI i))] [] h P := st_24 (y0 := y0) I hc s1 s2 s3 s4 s5 k
theorem sp_25 {E : ev_E} {P : Option ev_V ⊕ Nat → ev_H → Prop} {h : ev_H} {c t l i : Nat} {y0 y1 y2 y3 y4 y5 : Int32} (I : Inv h c t l) (hc : c < 512) (s1 : sok E (nI i + 1) y1) (s2 : sok E (nI i + 2) y2) (s3 : sok E (nI i + 3) y3) (s4 : sok E (nI i + 4) y4) (s5 : sok E (nI i + 5) y5) (k : Kp E P i (c + 1)) : Ev E M_LW_law 1892 [(0, vR 5 0), (1, vR 0 0), (2, vR 0 6), (3, vR 0 27), (4, vI (nI i))] [] h P := st_25 (y0 := y0) I hc s1 s2 s3 s4 s5 k
theorem sp_26 {E : ev_E} {P : Option ev_V ⊕ Nat → ev_H → Prop} {h : ev_H} {c t l i : Nat} {y0 y1 y2 y3 y4 y5 : Int32} (I : Inv h c t l) (hc : c < 512) (s1 : sok E (nI i + 1) y1) (s2 : sok E (nI i + 2) y2) (s3 : sok E (nI i + 3) y3) (s4 : sok E (nI i + 4) y4) (s5 : sok E (nI i + 5) y5) (k : Kp E P i (c + 1)) : Ev E M_LW_law 1960 [(0, vR 5 0), (1, vR 0 0), (2, vR 0 6), (3, vR 0 27), (4, vI (nI i))] [] h P := st_26 (y0 := y0) I hc s1 s2 s3 s4 s5 k
theorem sp_27 {E : ev_E} {P : Option ev_V ⊕ Nat → ev_H → Prop} {h : ev_H} {c t l i : Nat} {y0 y1 y2 y3 y4 y5 : Int32} (I : Inv h c t l) (hc : c < 512) (s1 : sok E (nI i + 1) y1) (s2 : sok E (nI i + 2) y2) (s3 : sok E (nI i + 3) y3) (s4 : sok E (nI i + 4) y4) (s5 : sok E (nI i + 5) y5) (k : Kp E P i (c + 1)) : Ev E M_LW_law 2028 [(0, vR 5 0), (1, vR 0 0), (2, vR 0 6), (3, vR 0 27), (4, vI (nI i))] [] h P := by
  by_cases v0 : f_TB_isBelow y1 (gI h 0 0 4) = 0
  · exact st_27_0 (y0 := y0) I hc s1 s2 s3 s4 s5 v0 k
  · exact st_27_1 (y0 := y0) I hc s1 s2 s3 s4 s5 v0 k
theorem sp_28 {E : ev_E} {P : Option ev_V ⊕ Nat → ev_H → Prop} {h : ev_H} {c t l i : Nat} {y0 y1 y2 y3 y4 y5 : Int32} (I : Inv h c t l) (hc : c < 512) (s1 : sok E (nI i + 1) y1) (s2 : sok E (nI i + 2) y2) (s3 : sok E (nI i + 3) y3) (s4 : sok E (nI i + 4) y4) (s5 : sok E (nI i + 5) y5) (k : Kp E P i (c + 1)) : Ev E M_LW_law 2096 [(0, vR 5 0), (1, vR 0 0), (2, vR 0 6), (3, vR 0 27), (4, vI (nI i))] [] h P := st_28 (y0 := y0) I hc s1 s2 s3 s4 s5 k
