/-! contracts (by program) -/
def f_TB_hasRoomFor (h : ev_H) (x1 : Int32) : Int32 := (if 48 < ((gI h 0 0 3) + x1) then 0 else 1)
theorem c_TB_hasRoomFor {E : ev_E} {P : Option ev_V ⊕ Nat → ev_H → Prop} {h : ev_H} {x1 : Int32} (k : P (.inl (some (vI (f_TB_hasRoomFor h x1)))) h) : Ev E M_TB_hasRoomFor 0 [(0, vR 0 0), (1, vI x1)] [] h P := by
  refine Ev_aload_n (pc := 0) d_TB_hasRoomFor_0 rfl ?_
  refine Ev_getI (pc := 1) d_TB_hasRoomFor_1 rfl rfl rfl fl_TB_42 ?_
  refine Ev_iload_n (pc := 4) d_TB_hasRoomFor_4 rfl ?_
  refine Ev_iadd (pc := 5) d_TB_hasRoomFor_5 ?_
  refine Ev_bipush (v := 48) (pc := 6) d_TB_hasRoomFor_6 (by decide) ?_
  refine Ev_icmp_gt (tgt := 15) (pc := 8) d_TB_hasRoomFor_8 rfl (fun q1 => ?_) (fun q1 => ?_)
  · refine Ev_iconst (v := 0) (pc := 15) d_TB_hasRoomFor_15 (by decide) ?_
    refine Ev_ireturn (pc := 16) d_TB_hasRoomFor_16 rfl rfl ?_
    rw [f_TB_hasRoomFor, if_pos q1] at k
    exact k
  · refine Ev_iconst (v := 1) (pc := 11) d_TB_hasRoomFor_11 (by decide) ?_
    refine Ev_goto (tgt := 16) (pc := 12) d_TB_hasRoomFor_12 rfl ?_
    refine Ev_ireturn (pc := 16) d_TB_hasRoomFor_16 rfl rfl ?_
    rw [f_TB_hasRoomFor, if_neg q1] at k
    exact k
theorem b_f_TB_hasRoomFor {h : ev_H} {x1 : Int32} : f_TB_hasRoomFor h x1 = 0 ∨ f_TB_hasRoomFor h x1 = 1 := by
  unfold f_TB_hasRoomFor
  first | exact Or.inl rfl | exact Or.inr rfl | (repeat' (split)) <;> (first | exact Or.inl rfl | exact Or.inr rfl)
def f_TB_isUsable (h : ev_H) (u : Nat) : Int32 := (if (f_UN_isExpired h u (gI h 0 0 5)) = 0 then (if (f_UN_isBarred h u (gI h 0 0 6)) = 0 then 1 else 0) else 0)
theorem c_TB_isUsable {E : ev_E} {P : Option ev_V ⊕ Nat → ev_H → Prop} {h : ev_H} {u : Nat} (k : P (.inl (some (vI (f_TB_isUsable h u)))) h) : Ev E M_TB_isUsable 0 [(0, vR 0 0), (1, vR 1 u)] [] h P := by
  refine Ev_aload_n (pc := 0) d_TB_isUsable_0 rfl ?_
  refine Ev_aload_n (pc := 1) d_TB_isUsable_1 rfl ?_
  refine Ev_getI (pc := 2) d_TB_isUsable_2 rfl rfl rfl fl_TB_38 ?_
  refine Ev_callV (M' := M_UN_isExpired) (as := [vI (gI h 0 0 5)]) (st := []) (a := 1) (i := u) (pc := 5) d_TB_isUsable_5 rfl rfl rfl rfl rfl rfl rfl v_UN_isExpired lk_TB_300 rfl rfl (c_UN_isExpired  ?_)
  refine Ev_if_ne (tgt := 26) (pc := 8) d_TB_isUsable_8 rfl (fun q1 => ?_) (fun q1 => ?_)
  · refine Ev_iconst (v := 0) (pc := 26) d_TB_isUsable_26 (by decide) ?_
    refine Ev_ireturn (pc := 27) d_TB_isUsable_27 rfl rfl ?_
    rw [f_TB_isUsable, if_neg q1] at k
    exact k
  · refine Ev_aload_n (pc := 11) d_TB_isUsable_11 rfl ?_
    refine Ev_aload_n (pc := 12) d_TB_isUsable_12 rfl ?_
    refine Ev_getI (pc := 13) d_TB_isUsable_13 rfl rfl rfl fl_TB_257 ?_
    refine Ev_callV (M' := M_UN_isBarred) (as := [vI (gI h 0 0 6)]) (st := []) (a := 1) (i := u) (pc := 16) d_TB_isUsable_16 rfl rfl rfl rfl rfl rfl rfl v_UN_isBarred lk_TB_260 rfl rfl (c_UN_isBarred  ?_)
    refine Ev_if_ne (tgt := 26) (pc := 19) d_TB_isUsable_19 rfl (fun q2 => ?_) (fun q2 => ?_)
    · refine Ev_iconst (v := 0) (pc := 26) d_TB_isUsable_26 (by decide) ?_
      refine Ev_ireturn (pc := 27) d_TB_isUsable_27 rfl rfl ?_
      rw [f_TB_isUsable, if_pos q1, if_neg q2] at k
      exact k
    · refine Ev_iconst (v := 1) (pc := 22) d_TB_isUsable_22 (by decide) ?_
      refine Ev_goto (tgt := 27) (pc := 23) d_TB_isUsable_23 rfl ?_
      refine Ev_ireturn (pc := 27) d_TB_isUsable_27 rfl rfl ?_
      rw [f_TB_isUsable, if_pos q1, if_pos q2] at k
      exact k
theorem b_f_TB_isUsable {h : ev_H} {u : Nat} : f_TB_isUsable h u = 0 ∨ f_TB_isUsable h u = 1 := by
  unfold f_TB_isUsable
  first | exact Or.inl rfl | exact Or.inr rfl | (repeat' (split)) <;> (first | exact Or.inl rfl | exact Or.inr rfl | exact b_f_UN_isBarred | exact b_f_UN_isExpired)
def f_TB_isReady (h : ev_H) (u : Nat) : Int32 := (if (gI h 1 u 8) = 0 then (if (f_TB_isUsable h u) = 0 then 0 else 1) else 0)
theorem c_TB_isReady {E : ev_E} {P : Option ev_V ⊕ Nat → ev_H → Prop} {h : ev_H} {u : Nat} (k : P (.inl (some (vI (f_TB_isReady h u)))) h) : Ev E M_TB_isReady 0 [(0, vR 0 0), (1, vR 1 u)] [] h P := by
  refine Ev_aload_n (pc := 0) d_TB_isReady_0 rfl ?_
  refine Ev_getI (pc := 1) d_TB_isReady_1 rfl rfl rfl fl_TB_82 ?_
  refine Ev_if_ne (tgt := 19) (pc := 4) d_TB_isReady_4 rfl (fun q1 => ?_) (fun q1 => ?_)
  · refine Ev_iconst (v := 0) (pc := 19) d_TB_isReady_19 (by decide) ?_
    refine Ev_ireturn (pc := 20) d_TB_isReady_20 rfl rfl ?_
    rw [f_TB_isReady, if_neg q1] at k
    exact k
  · refine Ev_aload_n (pc := 7) d_TB_isReady_7 rfl ?_
    refine Ev_aload_n (pc := 8) d_TB_isReady_8 rfl ?_
    refine Ev_callV (M' := M_TB_isUsable) (as := [vR 1 u]) (st := []) (a := 0) (i := 0) (pc := 9) d_TB_isReady_9 rfl rfl rfl rfl rfl rfl rfl v_TB_isUsable lk_TB_322 rfl rfl (c_TB_isUsable  ?_)
    refine Ev_if_eq (tgt := 19) (pc := 12) d_TB_isReady_12 rfl (fun q2 => ?_) (fun q2 => ?_)
    · refine Ev_iconst (v := 0) (pc := 19) d_TB_isReady_19 (by decide) ?_
      refine Ev_ireturn (pc := 20) d_TB_isReady_20 rfl rfl ?_
      rw [f_TB_isReady, if_pos q1, if_pos q2] at k
      exact k
    · refine Ev_iconst (v := 1) (pc := 15) d_TB_isReady_15 (by decide) ?_
      refine Ev_goto (tgt := 20) (pc := 16) d_TB_isReady_16 rfl ?_
      refine Ev_ireturn (pc := 20) d_TB_isReady_20 rfl rfl ?_
      rw [f_TB_isReady, if_pos q1, if_neg q2] at k
      exact k
theorem b_f_TB_isReady {h : ev_H} {u : Nat} : f_TB_isReady h u = 0 ∨ f_TB_isReady h u = 1 := by
  unfold f_TB_isReady
  first | exact Or.inl rfl | exact Or.inr rfl | (repeat' (split)) <;> (first | exact Or.inl rfl | exact Or.inr rfl | exact b_f_TB_isUsable)
def m_TB_mayLeaveFor_21 (h : ev_H) (x1 : Int32) (u : Nat) : Int32 := (if (gI h 1 u 8) = 1 then (if (gI h 1 u 9) = x1 then 1 else 0) else 0)
def f_TB_mayLeaveFor_21 (h : ev_H) (x1 : Int32) (u : Nat) : Int32 := (if (gI h 1 u 8) = 0 then (if (f_TB_isUsable h u) = 0 then 0 else 1) else (if (m_TB_mayLeaveFor_21 h x1 u) = 0 then 0 else (if (f_TB_isUsable h u) = 0 then 0 else 1)))
theorem c_TB_mayLeaveFor_21 {E : ev_E} {P : Option ev_V ⊕ Nat → ev_H → Prop} {h : ev_H} {x1 : Int32} {u : Nat} (k : P (.inl (some (vI (f_TB_mayLeaveFor_21 h x1 u)))) h) : Ev E M_TB_mayLeaveFor 21 [(0, vR 0 0), (1, vI x1), (2, vR 1 u)] [vI (m_TB_mayLeaveFor_21 h x1 u)] h P := by
  refine Ev_istore_n (pc := 21) d_TB_mayLeaveFor_21 rfl ?_
  refine Ev_aload_n (pc := 22) d_TB_mayLeaveFor_22 rfl ?_
  refine Ev_getI (pc := 23) d_TB_mayLeaveFor_23 rfl rfl rfl fl_TB_82 ?_
  refine Ev_if_eq (tgt := 33) (pc := 26) d_TB_mayLeaveFor_26 rfl (fun q3 => ?_) (fun q3 => ?_)
  · refine Ev_aload_n (pc := 33) d_TB_mayLeaveFor_33 rfl ?_
    refine Ev_aload_n (pc := 34) d_TB_mayLeaveFor_34 rfl ?_
    refine Ev_callV (M' := M_TB_isUsable) (as := [vR 1 u]) (st := []) (a := 0) (i := 0) (pc := 35) d_TB_mayLeaveFor_35 rfl rfl rfl rfl rfl rfl rfl v_TB_isUsable lk_TB_322 rfl rfl (c_TB_isUsable  ?_)
    refine Ev_if_eq (tgt := 45) (pc := 38) d_TB_mayLeaveFor_38 rfl (fun q4 => ?_) (fun q4 => ?_)
    · refine Ev_iconst (v := 0) (pc := 45) d_TB_mayLeaveFor_45 (by decide) ?_
      refine Ev_ireturn (pc := 46) d_TB_mayLeaveFor_46 rfl rfl ?_
      rw [f_TB_mayLeaveFor_21, if_pos q3, if_pos q4] at k
      exact k
    · refine Ev_iconst (v := 1) (pc := 41) d_TB_mayLeaveFor_41 (by decide) ?_
      refine Ev_goto (tgt := 46) (pc := 42) d_TB_mayLeaveFor_42 rfl ?_
      refine Ev_ireturn (pc := 46) d_TB_mayLeaveFor_46 rfl rfl ?_
      rw [f_TB_mayLeaveFor_21, if_pos q3, if_neg q4] at k
      exact k
  · refine Ev_iload_n (pc := 29) d_TB_mayLeaveFor_29 rfl ?_
    refine Ev_if_eq (tgt := 45) (pc := 30) d_TB_mayLeaveFor_30 rfl (fun q5 => ?_) (fun q5 => ?_)
    · refine Ev_iconst (v := 0) (pc := 45) d_TB_mayLeaveFor_45 (by decide) ?_
      refine Ev_ireturn (pc := 46) d_TB_mayLeaveFor_46 rfl rfl ?_
      rw [f_TB_mayLeaveFor_21, if_neg q3, if_pos q5] at k
      exact k
    · refine Ev_aload_n (pc := 33) d_TB_mayLeaveFor_33 rfl ?_
      refine Ev_aload_n (pc := 34) d_TB_mayLeaveFor_34 rfl ?_
      refine Ev_callV (M' := M_TB_isUsable) (as := [vR 1 u]) (st := []) (a := 0) (i := 0) (pc := 35) d_TB_mayLeaveFor_35 rfl rfl rfl rfl rfl rfl rfl v_TB_isUsable lk_TB_322 rfl rfl (c_TB_isUsable  ?_)
      refine Ev_if_eq (tgt := 45) (pc := 38) d_TB_mayLeaveFor_38 rfl (fun q6 => ?_) (fun q6 => ?_)
      · refine Ev_iconst (v := 0) (pc := 45) d_TB_mayLeaveFor_45 (by decide) ?_
        refine Ev_ireturn (pc := 46) d_TB_mayLeaveFor_46 rfl rfl ?_
        rw [f_TB_mayLeaveFor_21, if_neg q3, if_neg q5, if_pos q6] at k
        exact k
      · refine Ev_iconst (v := 1) (pc := 41) d_TB_mayLeaveFor_41 (by decide) ?_
        refine Ev_goto (tgt := 46) (pc := 42) d_TB_mayLeaveFor_42 rfl ?_
        refine Ev_ireturn (pc := 46) d_TB_mayLeaveFor_46 rfl rfl ?_
        rw [f_TB_mayLeaveFor_21, if_neg q3, if_neg q5, if_neg q6] at k
        exact k
def f_TB_mayLeaveFor (h : ev_H) (x1 : Int32) (u : Nat) : Int32 := f_TB_mayLeaveFor_21 h x1 u
theorem c_TB_mayLeaveFor {E : ev_E} {P : Option ev_V ⊕ Nat → ev_H → Prop} {h : ev_H} {x1 : Int32} {u : Nat} (k : P (.inl (some (vI (f_TB_mayLeaveFor h x1 u)))) h) : Ev E M_TB_mayLeaveFor 0 [(0, vR 0 0), (1, vI x1), (2, vR 1 u)] [] h P := by
  refine Ev_aload_n (pc := 0) d_TB_mayLeaveFor_0 rfl ?_
  refine Ev_getI (pc := 1) d_TB_mayLeaveFor_1 rfl rfl rfl fl_TB_82 ?_
  refine Ev_iconst (v := 1) (pc := 4) d_TB_mayLeaveFor_4 (by decide) ?_
  refine Ev_icmp_ne (tgt := 20) (pc := 5) d_TB_mayLeaveFor_5 rfl (fun q1 => ?_) (fun q1 => ?_)
  · refine Ev_iconst (v := 0) (pc := 20) d_TB_mayLeaveFor_20 (by decide) ?_
    rw [f_TB_mayLeaveFor] at k
    have j := c_TB_mayLeaveFor_21 (E := E) (P := P) (h := h) (x1 := x1) (u := u)  k
    rw [m_TB_mayLeaveFor_21, if_neg q1] at j
    exact j
  · refine Ev_aload_n (pc := 8) d_TB_mayLeaveFor_8 rfl ?_
    refine Ev_getI (pc := 9) d_TB_mayLeaveFor_9 rfl rfl rfl fl_TB_209 ?_
    refine Ev_iload_n (pc := 12) d_TB_mayLeaveFor_12 rfl ?_
    refine Ev_icmp_ne (tgt := 20) (pc := 13) d_TB_mayLeaveFor_13 rfl (fun q7 => ?_) (fun q7 => ?_)
    · refine Ev_iconst (v := 0) (pc := 20) d_TB_mayLeaveFor_20 (by decide) ?_
      rw [f_TB_mayLeaveFor] at k
      have j := c_TB_mayLeaveFor_21 (E := E) (P := P) (h := h) (x1 := x1) (u := u)  k
      rw [m_TB_mayLeaveFor_21, if_pos q1, if_neg q7] at j
      exact j
    · refine Ev_iconst (v := 1) (pc := 16) d_TB_mayLeaveFor_16 (by decide) ?_
      refine Ev_goto (tgt := 21) (pc := 17) d_TB_mayLeaveFor_17 rfl ?_
      rw [f_TB_mayLeaveFor] at k
      have j := c_TB_mayLeaveFor_21 (E := E) (P := P) (h := h) (x1 := x1) (u := u)  k
      rw [m_TB_mayLeaveFor_21, if_pos q1, if_pos q7] at j
      exact j
theorem b_f_TB_mayLeaveFor {h : ev_H} {x1 : Int32} {u : Nat} : f_TB_mayLeaveFor h x1 u = 0 ∨ f_TB_mayLeaveFor h x1 u = 1 := by
  unfold f_TB_mayLeaveFor
  unfold f_TB_mayLeaveFor_21
  first | exact Or.inl rfl | exact Or.inr rfl | (repeat' (split)) <;> (first | exact Or.inl rfl | exact Or.inr rfl | exact b_f_TB_isUsable)
def m_TB_isCleared_24 (h : ev_H) (p : Nat) (u : Nat) (x3 : Int32) : Int32 := (if (gI h 1 u 0) = 0 then (if (f_PA_hasValidCrossmatch h p x3 (gI h 0 0 5)) = 0 then 0 else 1) else 1)
def f_TB_isCleared_24 (h : ev_H) (p : Nat) (u : Nat) (x3 : Int32) : Int32 := (if (m_TB_isCleared_24 h p u x3) = 0 then 0 else (if (f_RU_reason h p u) = 0 then 1 else 0))
theorem c_TB_isCleared_24 {E : ev_E} {P : Option ev_V ⊕ Nat → ev_H → Prop} {h : ev_H} {p : Nat} {u : Nat} {x3 : Int32} (k : P (.inl (some (vI (f_TB_isCleared_24 h p u x3)))) h) : Ev E M_TB_isCleared 24 [(0, vR 0 0), (1, vR 2 p), (2, vR 1 u), (3, vI x3)] [vI (m_TB_isCleared_24 h p u x3)] h P := by
  refine Ev_istore (pc := 24) d_TB_isCleared_24 rfl ?_
  refine Ev_iload (pc := 26) d_TB_isCleared_26 rfl ?_
  refine Ev_if_eq (tgt := 43) (pc := 28) d_TB_isCleared_28 rfl (fun q3 => ?_) (fun q3 => ?_)
  · refine Ev_iconst (v := 0) (pc := 43) d_TB_isCleared_43 (by decide) ?_
    refine Ev_ireturn (pc := 44) d_TB_isCleared_44 rfl rfl ?_
    rw [f_TB_isCleared_24, if_pos q3] at k
    exact k
  · refine Ev_aload_n (pc := 31) d_TB_isCleared_31 rfl ?_
    refine Ev_aload_n (pc := 32) d_TB_isCleared_32 rfl ?_
    refine Ev_callS (M' := M_RU_reason) (as := [vR 2 p, vR 1 u]) (st := []) (pc := 33) d_TB_isCleared_33 rfl rfl rfl s_RU_reason lk_TB_233 rfl rfl (c_RU_reason  ?_)
    refine Ev_if_ne (tgt := 43) (pc := 36) d_TB_isCleared_36 rfl (fun q4 => ?_) (fun q4 => ?_)
    · refine Ev_iconst (v := 0) (pc := 43) d_TB_isCleared_43 (by decide) ?_
      refine Ev_ireturn (pc := 44) d_TB_isCleared_44 rfl rfl ?_
      rw [f_TB_isCleared_24, if_neg q3, if_neg q4] at k
      exact k
    · refine Ev_iconst (v := 1) (pc := 39) d_TB_isCleared_39 (by decide) ?_
      refine Ev_goto (tgt := 44) (pc := 40) d_TB_isCleared_40 rfl ?_
      refine Ev_ireturn (pc := 44) d_TB_isCleared_44 rfl rfl ?_
      rw [f_TB_isCleared_24, if_neg q3, if_pos q4] at k
      exact k
def f_TB_isCleared (h : ev_H) (p : Nat) (u : Nat) (x3 : Int32) : Int32 := f_TB_isCleared_24 h p u x3
theorem c_TB_isCleared {E : ev_E} {P : Option ev_V ⊕ Nat → ev_H → Prop} {h : ev_H} {p : Nat} {u : Nat} {x3 : Int32} (n0 : gR h 2 p 6 = vR 3 p) (n1 : ¬ x3 < 0) (n2 : x3.toNatClampNeg < 48) (k : P (.inl (some (vI (f_TB_isCleared h p u x3)))) h) : Ev E M_TB_isCleared 0 [(0, vR 0 0), (1, vR 2 p), (2, vR 1 u), (3, vI x3)] [] h P := by
  refine Ev_aload_n (pc := 0) d_TB_isCleared_0 rfl ?_
  refine Ev_getI (pc := 1) d_TB_isCleared_1 rfl rfl rfl fl_TB_99 ?_
  refine Ev_if_ne (tgt := 19) (pc := 4) d_TB_isCleared_4 rfl (fun q1 => ?_) (fun q1 => ?_)
  · refine Ev_iconst (v := 1) (pc := 19) d_TB_isCleared_19 (by decide) ?_
    refine Ev_goto (tgt := 24) (pc := 20) d_TB_isCleared_20 rfl ?_
    rw [f_TB_isCleared] at k
    have j := c_TB_isCleared_24 (E := E) (P := P) (h := h) (p := p) (u := u) (x3 := x3)  k
    rw [m_TB_isCleared_24, if_neg q1] at j
    exact j
  · refine Ev_aload_n (pc := 7) d_TB_isCleared_7 rfl ?_
    refine Ev_iload_n (pc := 8) d_TB_isCleared_8 rfl ?_
    refine Ev_aload_n (pc := 9) d_TB_isCleared_9 rfl ?_
    refine Ev_getI (pc := 10) d_TB_isCleared_10 rfl rfl rfl fl_TB_38 ?_
    refine Ev_callV (M' := M_PA_hasValidCrossmatch) (as := [vI x3, vI (gI h 0 0 5)]) (st := []) (a := 2) (i := p) (pc := 13) d_TB_isCleared_13 rfl rfl rfl rfl rfl rfl rfl v_PA_hasValidCrossmatch lk_TB_325 rfl rfl (c_PA_hasValidCrossmatch n0 n1 n2 ?_)
    refine Ev_if_eq (tgt := 23) (pc := 16) d_TB_isCleared_16 rfl (fun q5 => ?_) (fun q5 => ?_)
    · refine Ev_iconst (v := 0) (pc := 23) d_TB_isCleared_23 (by decide) ?_
      rw [f_TB_isCleared] at k
      have j := c_TB_isCleared_24 (E := E) (P := P) (h := h) (p := p) (u := u) (x3 := x3)  k
      rw [m_TB_isCleared_24, if_pos q1, if_pos q5] at j
      exact j
    · refine Ev_iconst (v := 1) (pc := 19) d_TB_isCleared_19 (by decide) ?_
      refine Ev_goto (tgt := 24) (pc := 20) d_TB_isCleared_20 rfl ?_
      rw [f_TB_isCleared] at k
      have j := c_TB_isCleared_24 (E := E) (P := P) (h := h) (p := p) (u := u) (x3 := x3)  k
      rw [m_TB_isCleared_24, if_pos q1, if_neg q5] at j
      exact j
theorem b_f_TB_isCleared {h : ev_H} {p : Nat} {u : Nat} {x3 : Int32} : f_TB_isCleared h p u x3 = 0 ∨ f_TB_isCleared h p u x3 = 1 := by
  unfold f_TB_isCleared
  unfold f_TB_isCleared_24
  first | exact Or.inl rfl | exact Or.inr rfl | (repeat' (split)) <;> (first | exact Or.inl rfl | exact Or.inr rfl | exact b_f_PA_hasValidCrossmatch)
def f_TB_suits (x0 : Int32) (x1 : Int32) : Int32 := (if x0 = 0 then (if x1 = 3 then 1 else 0) else (if x0 = 1 then (if x1 = 0 then 1 else 0) else (if x0 = 2 then (if x1 = 0 then 1 else (if x1 = 2 then 1 else 0)) else (if x1 = 1 then 1 else 0))))
theorem c_TB_suits {E : ev_E} {P : Option ev_V ⊕ Nat → ev_H → Prop} {h : ev_H} {x0 : Int32} {x1 : Int32} (k : P (.inl (some (vI (f_TB_suits x0 x1)))) h) : Ev E M_TB_suits 0 [(0, vI x0), (1, vI x1)] [] h P := by
  refine Ev_iload_n (pc := 0) d_TB_suits_0 rfl ?_
  by_cases q1 : x0 = 0
  · refine Ev_tblIn (pc := 1) (tgt := 28) (off := 27) d_TB_suits_1 (by rw [q1]; decide) (by rw [q1]; decide) (by rw [q1]; rfl) rfl ?_
    refine Ev_iload_n (pc := 28) d_TB_suits_28 rfl ?_
    refine Ev_iconst (v := 3) (pc := 29) d_TB_suits_29 (by decide) ?_
    refine Ev_icmp_ne (tgt := 37) (pc := 30) d_TB_suits_30 rfl (fun q2 => ?_) (fun q2 => ?_)
    · refine Ev_iconst (v := 0) (pc := 37) d_TB_suits_37 (by decide) ?_
      refine Ev_ireturn (pc := 38) d_TB_suits_38 rfl rfl ?_
      rw [f_TB_suits, if_pos q1, if_neg q2] at k
      exact k
    · refine Ev_iconst (v := 1) (pc := 33) d_TB_suits_33 (by decide) ?_
      refine Ev_goto (tgt := 38) (pc := 34) d_TB_suits_34 rfl ?_
      refine Ev_ireturn (pc := 38) d_TB_suits_38 rfl rfl ?_
      rw [f_TB_suits, if_pos q1, if_pos q2] at k
      exact k
  by_cases q3 : x0 = 1
  · refine Ev_tblIn (pc := 1) (tgt := 39) (off := 38) d_TB_suits_1 (by rw [q3]; decide) (by rw [q3]; decide) (by rw [q3]; rfl) rfl ?_
    refine Ev_iload_n (pc := 39) d_TB_suits_39 rfl ?_
    refine Ev_if_ne (tgt := 47) (pc := 40) d_TB_suits_40 rfl (fun q4 => ?_) (fun q4 => ?_)
    · refine Ev_iconst (v := 0) (pc := 47) d_TB_suits_47 (by decide) ?_
      refine Ev_ireturn (pc := 48) d_TB_suits_48 rfl rfl ?_
      rw [f_TB_suits, if_neg q1, if_pos q3, if_neg q4] at k
      exact k
    · refine Ev_iconst (v := 1) (pc := 43) d_TB_suits_43 (by decide) ?_
      refine Ev_goto (tgt := 48) (pc := 44) d_TB_suits_44 rfl ?_
      refine Ev_ireturn (pc := 48) d_TB_suits_48 rfl rfl ?_
      rw [f_TB_suits, if_neg q1, if_pos q3, if_pos q4] at k
      exact k
  by_cases q5 : x0 = 2
  · refine Ev_tblIn (pc := 1) (tgt := 49) (off := 48) d_TB_suits_1 (by rw [q5]; decide) (by rw [q5]; decide) (by rw [q5]; rfl) rfl ?_
    refine Ev_iload_n (pc := 49) d_TB_suits_49 rfl ?_
    refine Ev_if_eq (tgt := 58) (pc := 50) d_TB_suits_50 rfl (fun q6 => ?_) (fun q6 => ?_)
    · refine Ev_iconst (v := 1) (pc := 58) d_TB_suits_58 (by decide) ?_
      refine Ev_goto (tgt := 63) (pc := 59) d_TB_suits_59 rfl ?_
      refine Ev_ireturn (pc := 63) d_TB_suits_63 rfl rfl ?_
      rw [f_TB_suits, if_neg q1, if_neg q3, if_pos q5, if_pos q6] at k
      exact k
    · refine Ev_iload_n (pc := 53) d_TB_suits_53 rfl ?_
      refine Ev_iconst (v := 2) (pc := 54) d_TB_suits_54 (by decide) ?_
      refine Ev_icmp_ne (tgt := 62) (pc := 55) d_TB_suits_55 rfl (fun q7 => ?_) (fun q7 => ?_)
      · refine Ev_iconst (v := 0) (pc := 62) d_TB_suits_62 (by decide) ?_
        refine Ev_ireturn (pc := 63) d_TB_suits_63 rfl rfl ?_
        rw [f_TB_suits, if_neg q1, if_neg q3, if_pos q5, if_neg q6, if_neg q7] at k
        exact k
      · refine Ev_iconst (v := 1) (pc := 58) d_TB_suits_58 (by decide) ?_
        refine Ev_goto (tgt := 63) (pc := 59) d_TB_suits_59 rfl ?_
        refine Ev_ireturn (pc := 63) d_TB_suits_63 rfl rfl ?_
        rw [f_TB_suits, if_neg q1, if_neg q3, if_pos q5, if_neg q6, if_pos q7] at k
        exact k
  refine Ev_tblOut (pc := 1) (tgt := 64) d_TB_suits_1 (by have e0 := lv_neT (a := 0) q1 (by decide); have e1 := lv_neT (a := 1) q3 (by decide); have e2 := lv_neT (a := 2) q5 (by decide); omega) rfl ?_
  refine Ev_iload_n (pc := 64) d_TB_suits_64 rfl ?_
  refine Ev_iconst (v := 1) (pc := 65) d_TB_suits_65 (by decide) ?_
  refine Ev_icmp_ne (tgt := 73) (pc := 66) d_TB_suits_66 rfl (fun q8 => ?_) (fun q8 => ?_)
  · refine Ev_iconst (v := 0) (pc := 73) d_TB_suits_73 (by decide) ?_
    refine Ev_ireturn (pc := 74) d_TB_suits_74 rfl rfl ?_
    rw [f_TB_suits, if_neg q1, if_neg q3, if_neg q5, if_neg q8] at k
    exact k
  · refine Ev_iconst (v := 1) (pc := 69) d_TB_suits_69 (by decide) ?_
    refine Ev_goto (tgt := 74) (pc := 70) d_TB_suits_70 rfl ?_
    refine Ev_ireturn (pc := 74) d_TB_suits_74 rfl rfl ?_
    rw [f_TB_suits, if_neg q1, if_neg q3, if_neg q5, if_pos q8] at k
    exact k
theorem b_f_TB_suits {x0 : Int32} {x1 : Int32} : f_TB_suits x0 x1 = 0 ∨ f_TB_suits x0 x1 = 1 := by
  unfold f_TB_suits
  first | exact Or.inl rfl | exact Or.inr rfl | (repeat' (split)) <;> (first | exact Or.inl rfl | exact Or.inr rfl)
def f_TB_unitAt (h : ev_H) (x1 : Int32) : (Option ev_V ⊕ Nat) × ev_H := (if (f_TB_isBelow x1 (gI h 0 0 3)) = 0 then (.inr 2, nx h) else (.inl (some (vR 1 x1.toNatClampNeg)), h))
theorem c_TB_unitAt {E : ev_E} {P : Option ev_V ⊕ Nat → ev_H → Prop} {h : ev_H} {x1 : Int32} (hR : rfs h) (hU : uok h) (hZ : cZ h < ZM) (k : P (f_TB_unitAt h x1).1 (f_TB_unitAt h x1).2) : Ev E M_TB_unitAt 0 [(0, vR 0 0), (1, vI x1)] [] h P := by
  refine Ev_iload_n (pc := 0) d_TB_unitAt_0 rfl ?_
  refine Ev_aload_n (pc := 1) d_TB_unitAt_1 rfl ?_
  refine Ev_getI (pc := 2) d_TB_unitAt_2 rfl rfl rfl fl_TB_42 ?_
  refine Ev_callS (M' := M_TB_isBelow) (as := [vI x1, vI (gI h 0 0 3)]) (st := []) (pc := 5) d_TB_unitAt_5 rfl rfl rfl s_TB_isBelow lk_TB_48 rfl rfl (c_TB_isBelow  ?_)
  refine Ev_if_ne (tgt := 22) (pc := 8) d_TB_unitAt_8 rfl (fun q1 => ?_) (fun q1 => ?_)
  · refine Ev_aload_n (pc := 22) d_TB_unitAt_22 rfl ?_
    refine Ev_getR (pc := 23) d_TB_unitAt_23 rfl rfl rfl fl_TB_11 (rf_TB_0 hR) ?_
    refine Ev_iload_n (pc := 26) d_TB_unitAt_26 rfl ?_
    refine Ev_aald (pc := 27) d_TB_unitAt_27 rfl rfl (Or.inl rfl) (hU _ q1).1 (hU _ q1).2.1 (hU _ q1).2.2 ?_
    refine Ev_areturn (pc := 28) d_TB_unitAt_28 rfl ?_
    rw [f_TB_unitAt, if_neg q1] at k
    exact k
  · refine Ev_throwW (pc := 11) d_TB_unitAt_11 d_TB_unitAt_14 d_TB_unitAt_15 d_TB_unitAt_18 d_TB_unitAt_21 rfl rfl th_TB_315_317_319 rfl hZ ?_
    rw [f_TB_unitAt, if_pos q1] at k
    exact k
def f_TB_patientAt (h : ev_H) (x1 : Int32) : (Option ev_V ⊕ Nat) × ev_H := (if (f_TB_isBelow x1 (gI h 0 0 4)) = 0 then (.inr 2, nx h) else (.inl (some (vR 2 x1.toNatClampNeg)), h))
theorem c_TB_patientAt {E : ev_E} {P : Option ev_V ⊕ Nat → ev_H → Prop} {h : ev_H} {x1 : Int32} (hR : rfs h) (hP : pok h) (hZ : cZ h < ZM) (k : P (f_TB_patientAt h x1).1 (f_TB_patientAt h x1).2) : Ev E M_TB_patientAt 0 [(0, vR 0 0), (1, vI x1)] [] h P := by
  refine Ev_iload_n (pc := 0) d_TB_patientAt_0 rfl ?_
  refine Ev_aload_n (pc := 1) d_TB_patientAt_1 rfl ?_
  refine Ev_getI (pc := 2) d_TB_patientAt_2 rfl rfl rfl fl_TB_140 ?_
  refine Ev_callS (M' := M_TB_isBelow) (as := [vI x1, vI (gI h 0 0 4)]) (st := []) (pc := 5) d_TB_patientAt_5 rfl rfl rfl s_TB_isBelow lk_TB_48 rfl rfl (c_TB_isBelow  ?_)
  refine Ev_if_ne (tgt := 22) (pc := 8) d_TB_patientAt_8 rfl (fun q1 => ?_) (fun q1 => ?_)
  · refine Ev_aload_n (pc := 22) d_TB_patientAt_22 rfl ?_
    refine Ev_getR (pc := 23) d_TB_patientAt_23 rfl rfl rfl fl_TB_17 (rf_TB_1 hR) ?_
    refine Ev_iload_n (pc := 26) d_TB_patientAt_26 rfl ?_
    refine Ev_aald (pc := 27) d_TB_patientAt_27 rfl rfl (Or.inr rfl) (hP _ q1).1 (hP _ q1).2.1 (hP _ q1).2.2.1 ?_
    refine Ev_areturn (pc := 28) d_TB_patientAt_28 rfl ?_
    rw [f_TB_patientAt, if_neg q1] at k
    exact k
  · refine Ev_throwW (pc := 11) d_TB_patientAt_11 d_TB_patientAt_14 d_TB_patientAt_15 d_TB_patientAt_18 d_TB_patientAt_21 rfl rfl th_TB_315_320_319 rfl hZ ?_
    rw [f_TB_patientAt, if_pos q1] at k
    exact k
def f_TB_antigen (h : ev_H) (x1 : Int32) (x2 : Int32) (x3 : Int32) : (Option ev_V ⊕ Nat) × ev_H := (if (f_TB_isBelow x1 (gI h 0 0 3)) = 0 then (.inr 2, nx h) else (if (f_TB_isBelow x2 8) = 0 then (.inr 0, nx h) else (if x3 < 0 then (.inr 0, nx h) else (if x3 ≤ 2 then (if (gI h 1 x1.toNatClampNeg 8) = 0 then (.inl none, f_UN_setAntigen h x1.toNatClampNeg x2 x3) else (.inr 1, nx h)) else (.inr 0, nx h)))))
theorem c_TB_antigen {E : ev_E} {P : Option ev_V ⊕ Nat → ev_H → Prop} {h : ev_H} {x1 : Int32} {x2 : Int32} {x3 : Int32} (hU : uok h) (hR : rfs h) (hZ : cZ h < ZM) (k : P (f_TB_antigen h x1 x2 x3).1 (f_TB_antigen h x1 x2 x3).2) : Ev E M_TB_antigen 0 [(0, vR 0 0), (1, vI x1), (2, vI x2), (3, vI x3)] [] h P := by
  refine Ev_aload_n (pc := 0) d_TB_antigen_0 rfl ?_
  refine Ev_iload_n (pc := 1) d_TB_antigen_1 rfl ?_
  by_cases q1 : (f_TB_isBelow x1 (gI h 0 0 3)) = 0
  · refine Ev_callV (M' := M_TB_unitAt) (as := [vI x1]) (st := []) (a := 0) (i := 0) (pc := 2) d_TB_antigen_2 rfl rfl rfl rfl rfl rfl rfl v_TB_unitAt lk_TB_76 rfl rfl (c_TB_unitAt hR hU hZ ?_)
    rw [f_TB_unitAt, if_pos q1]
    refine Or.inl ⟨rfl, ?_⟩
    rw [f_TB_antigen, if_pos q1] at k
    exact k
  · refine Ev_callV (M' := M_TB_unitAt) (as := [vI x1]) (st := []) (a := 0) (i := 0) (pc := 2) d_TB_antigen_2 rfl rfl rfl rfl rfl rfl rfl v_TB_unitAt lk_TB_76 rfl rfl (c_TB_unitAt hR hU hZ ?_)
    rw [f_TB_unitAt, if_neg q1]
    refine Ev_astore (pc := 5) d_TB_antigen_5 rfl ?_
    refine Ev_iload_n (pc := 7) d_TB_antigen_7 rfl ?_
    refine Ev_bipush (v := 8) (pc := 8) d_TB_antigen_8 (by decide) ?_
    refine Ev_callS (M' := M_TB_isBelow) (as := [vI x2, vI 8]) (st := []) (pc := 10) d_TB_antigen_10 rfl rfl rfl s_TB_isBelow lk_TB_48 rfl rfl (c_TB_isBelow  ?_)
    refine Ev_if_eq (tgt := 25) (pc := 13) d_TB_antigen_13 rfl (fun q2 => ?_) (fun q2 => ?_)
    · refine Ev_throw (pc := 25) d_TB_antigen_25 d_TB_antigen_28 d_TB_antigen_29 d_TB_antigen_31 d_TB_antigen_34 rfl rfl th_TB_31_80_35 rfl hZ ?_
      rw [f_TB_antigen, if_neg q1, if_pos q2] at k
      exact k
    · refine Ev_iload_n (pc := 16) d_TB_antigen_16 rfl ?_
      refine Ev_if_lt (tgt := 25) (pc := 17) d_TB_antigen_17 rfl (fun q3 => ?_) (fun q3 => ?_)
      · refine Ev_throw (pc := 25) d_TB_antigen_25 d_TB_antigen_28 d_TB_antigen_29 d_TB_antigen_31 d_TB_antigen_34 rfl rfl th_TB_31_80_35 rfl hZ ?_
        rw [f_TB_antigen, if_neg q1, if_neg q2, if_pos q3] at k
        exact k
      · refine Ev_iload_n (pc := 20) d_TB_antigen_20 rfl ?_
        refine Ev_iconst (v := 2) (pc := 21) d_TB_antigen_21 (by decide) ?_
        refine Ev_icmp_le (tgt := 35) (pc := 22) d_TB_antigen_22 rfl (fun q4 => ?_) (fun q4 => ?_)
        · refine Ev_aload (pc := 35) d_TB_antigen_35 rfl ?_
          refine Ev_getI (pc := 37) d_TB_antigen_37 rfl rfl rfl fl_TB_82 ?_
          refine Ev_if_eq (tgt := 53) (pc := 40) d_TB_antigen_40 rfl (fun q5 => ?_) (fun q5 => ?_)
          · refine Ev_aload (pc := 53) d_TB_antigen_53 rfl ?_
            refine Ev_iload_n (pc := 55) d_TB_antigen_55 rfl ?_
            refine Ev_iload_n (pc := 56) d_TB_antigen_56 rfl ?_
            refine Ev_callV (M' := M_UN_setAntigen) (as := [vI x2, vI x3]) (st := []) (a := 1) (i := x1.toNatClampNeg) (pc := 57) d_TB_antigen_57 rfl rfl rfl rfl rfl rfl rfl v_UN_setAntigen lk_TB_87 rfl rfl (c_UN_setAntigen  ?_)
            refine Ev_return (pc := 60) d_TB_antigen_60 rfl ?_
            rw [f_TB_antigen, if_neg q1, if_neg q2, if_neg q3, if_pos q4, if_pos q5] at k
            exact k
          · refine Ev_throw (pc := 43) d_TB_antigen_43 d_TB_antigen_46 d_TB_antigen_47 d_TB_antigen_49 d_TB_antigen_52 rfl rfl th_TB_64_85_68 rfl hZ ?_
            rw [f_TB_antigen, if_neg q1, if_neg q2, if_neg q3, if_pos q4, if_neg q5] at k
            exact k
        · refine Ev_throw (pc := 25) d_TB_antigen_25 d_TB_antigen_28 d_TB_antigen_29 d_TB_antigen_31 d_TB_antigen_34 rfl rfl th_TB_31_80_35 rfl hZ ?_
          rw [f_TB_antigen, if_neg q1, if_neg q2, if_neg q3, if_neg q4] at k
          exact k
def f_TB_sample (h : ev_H) (x1 : Int32) (x2 : Int32) (x3 : Int32) : (Option ev_V ⊕ Nat) × ev_H := (if (f_TB_isBelow x1 (gI h 0 0 4)) = 0 then (.inr 2, nx h) else (if (f_TB_isBloodType x2 x3) = 0 then (.inr 0, nx h) else (if (gI h 2 x1.toNatClampNeg 0) = 2 then (.inr 1, nx h) else (.inl (some (vI (gI (f_PA_takeSample h x1.toNatClampNeg x2 x3 (gI h 0 0 5)) 2 x1.toNatClampNeg 0))), f_PA_takeSample h x1.toNatClampNeg x2 x3 (gI h 0 0 5)))))
theorem c_TB_sample {E : ev_E} {P : Option ev_V ⊕ Nat → ev_H → Prop} {h : ev_H} {x1 : Int32} {x2 : Int32} {x3 : Int32} (hP : pok h) (hR : rfs h) (hZ : cZ h < ZM) (k : P (f_TB_sample h x1 x2 x3).1 (f_TB_sample h x1 x2 x3).2) : Ev E M_TB_sample 0 [(0, vR 0 0), (1, vI x1), (2, vI x2), (3, vI x3)] [] h P := by
  refine Ev_aload_n (pc := 0) d_TB_sample_0 rfl ?_
  refine Ev_iload_n (pc := 1) d_TB_sample_1 rfl ?_
  by_cases q1 : (f_TB_isBelow x1 (gI h 0 0 4)) = 0
  · refine Ev_callV (M' := M_TB_patientAt) (as := [vI x1]) (st := []) (a := 0) (i := 0) (pc := 2) d_TB_sample_2 rfl rfl rfl rfl rfl rfl rfl v_TB_patientAt lk_TB_146 rfl rfl (c_TB_patientAt hR hP hZ ?_)
    rw [f_TB_patientAt, if_pos q1]
    refine Or.inl ⟨rfl, ?_⟩
    rw [f_TB_sample, if_pos q1] at k
    exact k
  · refine Ev_callV (M' := M_TB_patientAt) (as := [vI x1]) (st := []) (a := 0) (i := 0) (pc := 2) d_TB_sample_2 rfl rfl rfl rfl rfl rfl rfl v_TB_patientAt lk_TB_146 rfl rfl (c_TB_patientAt hR hP hZ ?_)
    rw [f_TB_patientAt, if_neg q1]
    refine Ev_astore (pc := 5) d_TB_sample_5 rfl ?_
    refine Ev_iload_n (pc := 7) d_TB_sample_7 rfl ?_
    refine Ev_iload_n (pc := 8) d_TB_sample_8 rfl ?_
    refine Ev_callS (M' := M_TB_isBloodType) (as := [vI x2, vI x3]) (st := []) (pc := 9) d_TB_sample_9 rfl rfl rfl s_TB_isBloodType lk_TB_52 rfl rfl (c_TB_isBloodType  ?_)
    refine Ev_if_ne (tgt := 25) (pc := 12) d_TB_sample_12 rfl (fun q2 => ?_) (fun q2 => ?_)
    · refine Ev_aload (pc := 25) d_TB_sample_25 rfl ?_
      refine Ev_getI (pc := 27) d_TB_sample_27 rfl rfl rfl fl_TB_152 ?_
      refine Ev_iconst (v := 2) (pc := 30) d_TB_sample_30 (by decide) ?_
      refine Ev_icmp_ne (tgt := 44) (pc := 31) d_TB_sample_31 rfl (fun q3 => ?_) (fun q3 => ?_)
      · refine Ev_aload (pc := 44) d_TB_sample_44 rfl ?_
        refine Ev_iload_n (pc := 46) d_TB_sample_46 rfl ?_
        refine Ev_iload_n (pc := 47) d_TB_sample_47 rfl ?_
        refine Ev_aload_n (pc := 48) d_TB_sample_48 rfl ?_
        refine Ev_getI (pc := 49) d_TB_sample_49 rfl rfl rfl fl_TB_38 ?_
        refine Ev_callV (M' := M_PA_takeSample) (as := [vI x2, vI x3, vI (gI h 0 0 5)]) (st := []) (a := 2) (i := x1.toNatClampNeg) (pc := 52) d_TB_sample_52 rfl rfl rfl rfl rfl rfl rfl v_PA_takeSample lk_TB_157 rfl rfl (c_PA_takeSample  ?_)
        refine Ev_aload (pc := 55) d_TB_sample_55 rfl ?_
        refine Ev_getI (pc := 57) d_TB_sample_57 rfl rfl rfl fl_TB_152 ?_
        refine Ev_ireturn (pc := 60) d_TB_sample_60 rfl rfl ?_
        rw [f_TB_sample, if_neg q1, if_neg q2, if_neg q3] at k
        exact k
      · refine Ev_throw (pc := 34) d_TB_sample_34 d_TB_sample_37 d_TB_sample_38 d_TB_sample_40 d_TB_sample_43 rfl rfl th_TB_64_155_68 rfl hZ ?_
        rw [f_TB_sample, if_neg q1, if_neg q2, if_pos q3] at k
        exact k
    · refine Ev_throw (pc := 15) d_TB_sample_15 d_TB_sample_18 d_TB_sample_19 d_TB_sample_21 d_TB_sample_24 rfl rfl th_TB_31_150_35 rfl hZ ?_
      rw [f_TB_sample, if_neg q1, if_pos q2] at k
      exact k
def f_TB_unlock (h : ev_H) (x1 : Int32) (x2 : Int32) (x3 : Int32) : (Option ev_V ⊕ Nat) × ev_H := (if (f_TB_isBelow x1 (gI h 0 0 4)) = 0 then (.inr 2, nx h) else (if (f_TB_isBloodType x2 x3) = 0 then (.inr 0, nx h) else (if (gI h 2 x1.toNatClampNeg 0) = 2 then (.inl none, f_PA_confirm h x1.toNatClampNeg x2 x3) else (.inr 1, nx h))))
theorem c_TB_unlock {E : ev_E} {P : Option ev_V ⊕ Nat → ev_H → Prop} {h : ev_H} {x1 : Int32} {x2 : Int32} {x3 : Int32} (hP : pok h) (hR : rfs h) (hZ : cZ h < ZM) (k : P (f_TB_unlock h x1 x2 x3).1 (f_TB_unlock h x1 x2 x3).2) : Ev E M_TB_unlock 0 [(0, vR 0 0), (1, vI x1), (2, vI x2), (3, vI x3)] [] h P := by
  refine Ev_aload_n (pc := 0) d_TB_unlock_0 rfl ?_
  refine Ev_iload_n (pc := 1) d_TB_unlock_1 rfl ?_
  by_cases q1 : (f_TB_isBelow x1 (gI h 0 0 4)) = 0
  · refine Ev_callV (M' := M_TB_patientAt) (as := [vI x1]) (st := []) (a := 0) (i := 0) (pc := 2) d_TB_unlock_2 rfl rfl rfl rfl rfl rfl rfl v_TB_patientAt lk_TB_146 rfl rfl (c_TB_patientAt hR hP hZ ?_)
    rw [f_TB_patientAt, if_pos q1]
    refine Or.inl ⟨rfl, ?_⟩
    rw [f_TB_unlock, if_pos q1] at k
    exact k
  · refine Ev_callV (M' := M_TB_patientAt) (as := [vI x1]) (st := []) (a := 0) (i := 0) (pc := 2) d_TB_unlock_2 rfl rfl rfl rfl rfl rfl rfl v_TB_patientAt lk_TB_146 rfl rfl (c_TB_patientAt hR hP hZ ?_)
    rw [f_TB_patientAt, if_neg q1]
    refine Ev_astore (pc := 5) d_TB_unlock_5 rfl ?_
    refine Ev_iload_n (pc := 7) d_TB_unlock_7 rfl ?_
    refine Ev_iload_n (pc := 8) d_TB_unlock_8 rfl ?_
    refine Ev_callS (M' := M_TB_isBloodType) (as := [vI x2, vI x3]) (st := []) (pc := 9) d_TB_unlock_9 rfl rfl rfl s_TB_isBloodType lk_TB_52 rfl rfl (c_TB_isBloodType  ?_)
    refine Ev_if_ne (tgt := 25) (pc := 12) d_TB_unlock_12 rfl (fun q2 => ?_) (fun q2 => ?_)
    · refine Ev_aload (pc := 25) d_TB_unlock_25 rfl ?_
      refine Ev_getI (pc := 27) d_TB_unlock_27 rfl rfl rfl fl_TB_152 ?_
      refine Ev_iconst (v := 2) (pc := 30) d_TB_unlock_30 (by decide) ?_
      refine Ev_icmp_eq (tgt := 44) (pc := 31) d_TB_unlock_31 rfl (fun q3 => ?_) (fun q3 => ?_)
      · refine Ev_aload (pc := 44) d_TB_unlock_44 rfl ?_
        refine Ev_iload_n (pc := 46) d_TB_unlock_46 rfl ?_
        refine Ev_iload_n (pc := 47) d_TB_unlock_47 rfl ?_
        refine Ev_callV (M' := M_PA_confirm) (as := [vI x2, vI x3]) (st := []) (a := 2) (i := x1.toNatClampNeg) (pc := 48) d_TB_unlock_48 rfl rfl rfl rfl rfl rfl rfl v_PA_confirm lk_TB_163 rfl rfl (c_PA_confirm  ?_)
        refine Ev_return (pc := 51) d_TB_unlock_51 rfl ?_
        rw [f_TB_unlock, if_neg q1, if_neg q2, if_pos q3] at k
        exact k
      · refine Ev_throw (pc := 34) d_TB_unlock_34 d_TB_unlock_37 d_TB_unlock_38 d_TB_unlock_40 d_TB_unlock_43 rfl rfl th_TB_64_161_68 rfl hZ ?_
        rw [f_TB_unlock, if_neg q1, if_neg q2, if_neg q3] at k
        exact k
    · refine Ev_throw (pc := 15) d_TB_unlock_15 d_TB_unlock_18 d_TB_unlock_19 d_TB_unlock_21 d_TB_unlock_24 rfl rfl th_TB_31_150_35 rfl hZ ?_
      rw [f_TB_unlock, if_neg q1, if_pos q2] at k
      exact k
def f_TB_need (h : ev_H) (x1 : Int32) (x2 : Int32) : (Option ev_V ⊕ Nat) × ev_H := (if (f_TB_isBelow x1 (gI h 0 0 4)) = 0 then (.inr 2, nx h) else (if x2 < 0 then (.inr 0, nx h) else (if x2 ≤ 7 then (.inl (some (vI (gI h 2 x1.toNatClampNeg 5))), sI h 2 x1.toNatClampNeg 5 x2) else (.inr 0, nx h))))
theorem c_TB_need {E : ev_E} {P : Option ev_V ⊕ Nat → ev_H → Prop} {h : ev_H} {x1 : Int32} {x2 : Int32} (hP : pok h) (hR : rfs h) (hZ : cZ h < ZM) (k : P (f_TB_need h x1 x2).1 (f_TB_need h x1 x2).2) : Ev E M_TB_need 0 [(0, vR 0 0), (1, vI x1), (2, vI x2)] [] h P := by
  refine Ev_aload_n (pc := 0) d_TB_need_0 rfl ?_
  refine Ev_iload_n (pc := 1) d_TB_need_1 rfl ?_
  by_cases q1 : (f_TB_isBelow x1 (gI h 0 0 4)) = 0
  · refine Ev_callV (M' := M_TB_patientAt) (as := [vI x1]) (st := []) (a := 0) (i := 0) (pc := 2) d_TB_need_2 rfl rfl rfl rfl rfl rfl rfl v_TB_patientAt lk_TB_146 rfl rfl (c_TB_patientAt hR hP hZ ?_)
    rw [f_TB_patientAt, if_pos q1]
    refine Or.inl ⟨rfl, ?_⟩
    rw [f_TB_need, if_pos q1] at k
    exact k
  · refine Ev_callV (M' := M_TB_patientAt) (as := [vI x1]) (st := []) (a := 0) (i := 0) (pc := 2) d_TB_need_2 rfl rfl rfl rfl rfl rfl rfl v_TB_patientAt lk_TB_146 rfl rfl (c_TB_patientAt hR hP hZ ?_)
    rw [f_TB_patientAt, if_neg q1]
    refine Ev_astore_n (pc := 5) d_TB_need_5 rfl ?_
    refine Ev_iload_n (pc := 6) d_TB_need_6 rfl ?_
    refine Ev_if_lt (tgt := 16) (pc := 7) d_TB_need_7 rfl (fun q2 => ?_) (fun q2 => ?_)
    · refine Ev_throw (pc := 16) d_TB_need_16 d_TB_need_19 d_TB_need_20 d_TB_need_22 d_TB_need_25 rfl rfl th_TB_31_177_35 rfl hZ ?_
      rw [f_TB_need, if_neg q1, if_pos q2] at k
      exact k
    · refine Ev_iload_n (pc := 10) d_TB_need_10 rfl ?_
      refine Ev_bipush (v := 7) (pc := 11) d_TB_need_11 (by decide) ?_
      refine Ev_icmp_le (tgt := 26) (pc := 13) d_TB_need_13 rfl (fun q3 => ?_) (fun q3 => ?_)
      · refine Ev_aload_n (pc := 26) d_TB_need_26 rfl ?_
        refine Ev_getI (pc := 27) d_TB_need_27 rfl rfl rfl fl_TB_179 ?_
        refine Ev_istore (pc := 30) d_TB_need_30 rfl ?_
        refine Ev_aload_n (pc := 32) d_TB_need_32 rfl ?_
        refine Ev_iload_n (pc := 33) d_TB_need_33 rfl ?_
        refine Ev_putI (pc := 34) d_TB_need_34 rfl rfl rfl fl_TB_179 rfl ?_
        refine Ev_iload (pc := 37) d_TB_need_37 rfl ?_
        refine Ev_ireturn (pc := 39) d_TB_need_39 rfl rfl ?_
        rw [f_TB_need, if_neg q1, if_neg q2, if_pos q3] at k
        exact k
      · refine Ev_throw (pc := 16) d_TB_need_16 d_TB_need_19 d_TB_need_20 d_TB_need_22 d_TB_need_25 rfl rfl th_TB_31_177_35 rfl hZ ?_
        rw [f_TB_need, if_neg q1, if_neg q2, if_neg q3] at k
        exact k
def m_TB_crossmatch_65 (h : ev_H) (x1 : Int32) (x2 : Int32) (x3 : Int32) : Int32 := (if x3 = 0 then -1 else gI h 0 0 5)
def f_TB_crossmatch_65 (h : ev_H) (x1 : Int32) (x2 : Int32) (x3 : Int32) : (Option ev_V ⊕ Nat) × ev_H := (.inl none, f_PA_noteCrossmatch h x1.toNatClampNeg x2 (m_TB_crossmatch_65 h x1 x2 x3))
theorem c_TB_crossmatch_65 {E : ev_E} {P : Option ev_V ⊕ Nat → ev_H → Prop} {h : ev_H} {x1 : Int32} {x2 : Int32} {x3 : Int32} (q1 : ¬ ((f_TB_isBelow x1 (gI h 0 0 4)) = 0)) (q2 : ¬ ((f_TB_isBelow x2 (gI h 0 0 3)) = 0)) (hP : pok h) (hU : uok h) (k : P (f_TB_crossmatch_65 h x1 x2 x3).1 (f_TB_crossmatch_65 h x1 x2 x3).2) : Ev E M_TB_crossmatch 65 [(0, vR 0 0), (1, vI x1), (2, vI x2), (3, vI x3), (4, vR 2 x1.toNatClampNeg), (5, vR 1 x2.toNatClampNeg)] [vI (m_TB_crossmatch_65 h x1 x2 x3), vI x2, vR 2 x1.toNatClampNeg] h P := by
  refine Ev_callV (M' := M_PA_noteCrossmatch) (as := [vI x2, vI (m_TB_crossmatch_65 h x1 x2 x3)]) (st := []) (a := 2) (i := x1.toNatClampNeg) (pc := 65) d_TB_crossmatch_65 rfl rfl rfl rfl rfl rfl rfl v_PA_noteCrossmatch lk_TB_190 rfl rfl (c_PA_noteCrossmatch (hP _ q1).2.2.2 (hU _ q2).1 (hU _ q2).2.1 ?_)
  refine Ev_return (pc := 68) d_TB_crossmatch_68 rfl ?_
  rw [f_TB_crossmatch_65] at k
  exact k
def f_TB_crossmatch (h : ev_H) (x1 : Int32) (x2 : Int32) (x3 : Int32) : (Option ev_V ⊕ Nat) × ev_H := (if (f_TB_isBelow x1 (gI h 0 0 4)) = 0 then (.inr 2, nx h) else (if (f_TB_isBelow x2 (gI h 0 0 3)) = 0 then (.inr 2, nx h) else (if (f_UN_isInHouse h x2.toNatClampNeg) = 0 then (.inr 1, nx h) else (if (gI h 1 x2.toNatClampNeg 0) = 0 then f_TB_crossmatch_65 h x1 x2 x3 else (.inr 3, nx h)))))
theorem c_TB_crossmatch {E : ev_E} {P : Option ev_V ⊕ Nat → ev_H → Prop} {h : ev_H} {x1 : Int32} {x2 : Int32} {x3 : Int32} (hP : pok h) (hR : rfs h) (hZ : cZ h < ZM) (hU : uok h) (k : P (f_TB_crossmatch h x1 x2 x3).1 (f_TB_crossmatch h x1 x2 x3).2) : Ev E M_TB_crossmatch 0 [(0, vR 0 0), (1, vI x1), (2, vI x2), (3, vI x3)] [] h P := by
  refine Ev_aload_n (pc := 0) d_TB_crossmatch_0 rfl ?_
  refine Ev_iload_n (pc := 1) d_TB_crossmatch_1 rfl ?_
  by_cases q1 : (f_TB_isBelow x1 (gI h 0 0 4)) = 0
  · refine Ev_callV (M' := M_TB_patientAt) (as := [vI x1]) (st := []) (a := 0) (i := 0) (pc := 2) d_TB_crossmatch_2 rfl rfl rfl rfl rfl rfl rfl v_TB_patientAt lk_TB_146 rfl rfl (c_TB_patientAt hR hP hZ ?_)
    rw [f_TB_patientAt, if_pos q1]
    refine Or.inl ⟨rfl, ?_⟩
    rw [f_TB_crossmatch, if_pos q1] at k
    exact k
  · refine Ev_callV (M' := M_TB_patientAt) (as := [vI x1]) (st := []) (a := 0) (i := 0) (pc := 2) d_TB_crossmatch_2 rfl rfl rfl rfl rfl rfl rfl v_TB_patientAt lk_TB_146 rfl rfl (c_TB_patientAt hR hP hZ ?_)
    rw [f_TB_patientAt, if_neg q1]
    refine Ev_astore (pc := 5) d_TB_crossmatch_5 rfl ?_
    refine Ev_aload_n (pc := 7) d_TB_crossmatch_7 rfl ?_
    refine Ev_iload_n (pc := 8) d_TB_crossmatch_8 rfl ?_
    by_cases q2 : (f_TB_isBelow x2 (gI h 0 0 3)) = 0
    · refine Ev_callV (M' := M_TB_unitAt) (as := [vI x2]) (st := []) (a := 0) (i := 0) (pc := 9) d_TB_crossmatch_9 rfl rfl rfl rfl rfl rfl rfl v_TB_unitAt lk_TB_76 rfl rfl (c_TB_unitAt hR hU hZ ?_)
      rw [f_TB_unitAt, if_pos q2]
      refine Or.inl ⟨rfl, ?_⟩
      rw [f_TB_crossmatch, if_neg q1, if_pos q2] at k
      exact k
    · refine Ev_callV (M' := M_TB_unitAt) (as := [vI x2]) (st := []) (a := 0) (i := 0) (pc := 9) d_TB_crossmatch_9 rfl rfl rfl rfl rfl rfl rfl v_TB_unitAt lk_TB_76 rfl rfl (c_TB_unitAt hR hU hZ ?_)
      rw [f_TB_unitAt, if_neg q2]
      refine Ev_astore (pc := 12) d_TB_crossmatch_12 rfl ?_
      refine Ev_aload (pc := 14) d_TB_crossmatch_14 rfl ?_
      refine Ev_callV (M' := M_UN_isInHouse) (as := []) (st := []) (a := 1) (i := x2.toNatClampNeg) (pc := 16) d_TB_crossmatch_16 rfl rfl rfl rfl rfl rfl rfl v_UN_isInHouse lk_TB_182 rfl rfl (c_UN_isInHouse  ?_)
      refine Ev_if_ne (tgt := 32) (pc := 19) d_TB_crossmatch_19 rfl (fun q3 => ?_) (fun q3 => ?_)
      · refine Ev_aload (pc := 32) d_TB_crossmatch_32 rfl ?_
        refine Ev_getI (pc := 34) d_TB_crossmatch_34 rfl rfl rfl fl_TB_99 ?_
        refine Ev_if_eq (tgt := 50) (pc := 37) d_TB_crossmatch_37 rfl (fun q4 => ?_) (fun q4 => ?_)
        · refine Ev_aload (pc := 50) d_TB_crossmatch_50 rfl ?_
          refine Ev_iload_n (pc := 52) d_TB_crossmatch_52 rfl ?_
          refine Ev_iload_n (pc := 53) d_TB_crossmatch_53 rfl ?_
          refine Ev_if_eq (tgt := 64) (pc := 54) d_TB_crossmatch_54 rfl (fun q5 => ?_) (fun q5 => ?_)
          · refine Ev_iconst (v := -1) (pc := 64) d_TB_crossmatch_64 (by decide) ?_
            rw [f_TB_crossmatch, if_neg q1, if_neg q2, if_neg q3, if_pos q4] at k
            have j := c_TB_crossmatch_65 (E := E) (P := P) (h := h) (x1 := x1) (x2 := x2) (x3 := x3) q1 q2 hP hU k
            rw [m_TB_crossmatch_65, if_pos q5] at j
            exact j
          · refine Ev_aload_n (pc := 57) d_TB_crossmatch_57 rfl ?_
            refine Ev_getI (pc := 58) d_TB_crossmatch_58 rfl rfl rfl fl_TB_38 ?_
            refine Ev_goto (tgt := 65) (pc := 61) d_TB_crossmatch_61 rfl ?_
            rw [f_TB_crossmatch, if_neg q1, if_neg q2, if_neg q3, if_pos q4] at k
            have j := c_TB_crossmatch_65 (E := E) (P := P) (h := h) (x1 := x1) (x2 := x2) (x3 := x3) q1 q2 hP hU k
            rw [m_TB_crossmatch_65, if_neg q5] at j
            exact j
        · refine Ev_throw (pc := 40) d_TB_crossmatch_40 d_TB_crossmatch_43 d_TB_crossmatch_44 d_TB_crossmatch_46 d_TB_crossmatch_49 rfl rfl th_TB_105_188_109 rfl hZ ?_
          rw [f_TB_crossmatch, if_neg q1, if_neg q2, if_neg q3, if_neg q4] at k
          exact k
      · refine Ev_throw (pc := 22) d_TB_crossmatch_22 d_TB_crossmatch_25 d_TB_crossmatch_26 d_TB_crossmatch_28 d_TB_crossmatch_31 rfl rfl th_TB_64_186_68 rfl hZ ?_
        rw [f_TB_crossmatch, if_neg q1, if_neg q2, if_pos q3] at k
        exact k
def f_TB_reserve (h : ev_H) (x1 : Int32) (x2 : Int32) : (Option ev_V ⊕ Nat) × ev_H := (if (f_TB_isBelow x1 (gI h 0 0 4)) = 0 then (.inr 2, nx h) else (if (f_TB_isBelow x2 (gI h 0 0 3)) = 0 then (.inr 2, nx h) else (if (f_TB_isReady h x2.toNatClampNeg) = 0 then (.inr 1, nx h) else (if (gI h 2 x1.toNatClampNeg 0) = 2 then (.inr 1, nx h) else (if (f_TB_isCleared h x1.toNatClampNeg x2.toNatClampNeg x2) = 0 then (.inr 3, nx h) else (.inl (some (vI (gI (f_UN_reserveFor h x2.toNatClampNeg x1 ((gI h 0 0 5) + 4320)) 1 x2.toNatClampNeg 10))), f_UN_reserveFor h x2.toNatClampNeg x1 ((gI h 0 0 5) + 4320)))))))
theorem c_TB_reserve {E : ev_E} {P : Option ev_V ⊕ Nat → ev_H → Prop} {h : ev_H} {x1 : Int32} {x2 : Int32} (hP : pok h) (hR : rfs h) (hZ : cZ h < ZM) (hU : uok h) (k : P (f_TB_reserve h x1 x2).1 (f_TB_reserve h x1 x2).2) : Ev E M_TB_reserve 0 [(0, vR 0 0), (1, vI x1), (2, vI x2)] [] h P := by
  refine Ev_aload_n (pc := 0) d_TB_reserve_0 rfl ?_
  refine Ev_iload_n (pc := 1) d_TB_reserve_1 rfl ?_
  by_cases q1 : (f_TB_isBelow x1 (gI h 0 0 4)) = 0
  · refine Ev_callV (M' := M_TB_patientAt) (as := [vI x1]) (st := []) (a := 0) (i := 0) (pc := 2) d_TB_reserve_2 rfl rfl rfl rfl rfl rfl rfl v_TB_patientAt lk_TB_146 rfl rfl (c_TB_patientAt hR hP hZ ?_)
    rw [f_TB_patientAt, if_pos q1]
    refine Or.inl ⟨rfl, ?_⟩
    rw [f_TB_reserve, if_pos q1] at k
    exact k
  · refine Ev_callV (M' := M_TB_patientAt) (as := [vI x1]) (st := []) (a := 0) (i := 0) (pc := 2) d_TB_reserve_2 rfl rfl rfl rfl rfl rfl rfl v_TB_patientAt lk_TB_146 rfl rfl (c_TB_patientAt hR hP hZ ?_)
    rw [f_TB_patientAt, if_neg q1]
    refine Ev_astore_n (pc := 5) d_TB_reserve_5 rfl ?_
    refine Ev_aload_n (pc := 6) d_TB_reserve_6 rfl ?_
    refine Ev_iload_n (pc := 7) d_TB_reserve_7 rfl ?_
    by_cases q2 : (f_TB_isBelow x2 (gI h 0 0 3)) = 0
    · refine Ev_callV (M' := M_TB_unitAt) (as := [vI x2]) (st := []) (a := 0) (i := 0) (pc := 8) d_TB_reserve_8 rfl rfl rfl rfl rfl rfl rfl v_TB_unitAt lk_TB_76 rfl rfl (c_TB_unitAt hR hU hZ ?_)
      rw [f_TB_unitAt, if_pos q2]
      refine Or.inl ⟨rfl, ?_⟩
      rw [f_TB_reserve, if_neg q1, if_pos q2] at k
      exact k
    · refine Ev_callV (M' := M_TB_unitAt) (as := [vI x2]) (st := []) (a := 0) (i := 0) (pc := 8) d_TB_reserve_8 rfl rfl rfl rfl rfl rfl rfl v_TB_unitAt lk_TB_76 rfl rfl (c_TB_unitAt hR hU hZ ?_)
      rw [f_TB_unitAt, if_neg q2]
      refine Ev_astore (pc := 11) d_TB_reserve_11 rfl ?_
      refine Ev_aload_n (pc := 13) d_TB_reserve_13 rfl ?_
      refine Ev_aload (pc := 14) d_TB_reserve_14 rfl ?_
      refine Ev_callV (M' := M_TB_isReady) (as := [vR 1 x2.toNatClampNeg]) (st := []) (a := 0) (i := 0) (pc := 16) d_TB_reserve_16 rfl rfl rfl rfl rfl rfl rfl v_TB_isReady lk_TB_93 rfl rfl (c_TB_isReady  ?_)
      refine Ev_if_eq (tgt := 30) (pc := 19) d_TB_reserve_19 rfl (fun q3 => ?_) (fun q3 => ?_)
      · refine Ev_throw (pc := 30) d_TB_reserve_30 d_TB_reserve_33 d_TB_reserve_34 d_TB_reserve_36 d_TB_reserve_39 rfl rfl th_TB_64_193_68 rfl hZ ?_
        rw [f_TB_reserve, if_neg q1, if_neg q2, if_pos q3] at k
        exact k
      · refine Ev_aload_n (pc := 22) d_TB_reserve_22 rfl ?_
        refine Ev_getI (pc := 23) d_TB_reserve_23 rfl rfl rfl fl_TB_152 ?_
        refine Ev_iconst (v := 2) (pc := 26) d_TB_reserve_26 (by decide) ?_
        refine Ev_icmp_ne (tgt := 40) (pc := 27) d_TB_reserve_27 rfl (fun q4 => ?_) (fun q4 => ?_)
        · refine Ev_aload_n (pc := 40) d_TB_reserve_40 rfl ?_
          refine Ev_aload_n (pc := 41) d_TB_reserve_41 rfl ?_
          refine Ev_aload (pc := 42) d_TB_reserve_42 rfl ?_
          refine Ev_iload_n (pc := 44) d_TB_reserve_44 rfl ?_
          refine Ev_callV (M' := M_TB_isCleared) (as := [vR 2 x1.toNatClampNeg, vR 1 x2.toNatClampNeg, vI x2]) (st := []) (a := 0) (i := 0) (pc := 45) d_TB_reserve_45 rfl rfl rfl rfl rfl rfl rfl v_TB_isCleared lk_TB_195 rfl rfl (c_TB_isCleared (hP _ q1).2.2.2 (hU _ q2).1 (hU _ q2).2.1 ?_)
          refine Ev_if_ne (tgt := 61) (pc := 48) d_TB_reserve_48 rfl (fun q5 => ?_) (fun q5 => ?_)
          · refine Ev_aload (pc := 61) d_TB_reserve_61 rfl ?_
            refine Ev_iload_n (pc := 63) d_TB_reserve_63 rfl ?_
            refine Ev_aload_n (pc := 64) d_TB_reserve_64 rfl ?_
            refine Ev_getI (pc := 65) d_TB_reserve_65 rfl rfl rfl fl_TB_38 ?_
            refine Ev_sipush (v := 4320) (pc := 68) d_TB_reserve_68 (by decide) ?_
            refine Ev_iadd (pc := 71) d_TB_reserve_71 ?_
            refine Ev_callV (M' := M_UN_reserveFor) (as := [vI x1, vI ((gI h 0 0 5) + 4320)]) (st := []) (a := 1) (i := x2.toNatClampNeg) (pc := 72) d_TB_reserve_72 rfl rfl rfl rfl rfl rfl rfl v_UN_reserveFor lk_TB_201 rfl rfl (c_UN_reserveFor  ?_)
            refine Ev_aload (pc := 75) d_TB_reserve_75 rfl ?_
            refine Ev_getI (pc := 77) d_TB_reserve_77 rfl rfl rfl fl_TB_204 ?_
            refine Ev_ireturn (pc := 80) d_TB_reserve_80 rfl rfl ?_
            rw [f_TB_reserve, if_neg q1, if_neg q2, if_neg q3, if_neg q4, if_neg q5] at k
            exact k
          · refine Ev_throw (pc := 51) d_TB_reserve_51 d_TB_reserve_54 d_TB_reserve_55 d_TB_reserve_57 d_TB_reserve_60 rfl rfl th_TB_105_199_109 rfl hZ ?_
            rw [f_TB_reserve, if_neg q1, if_neg q2, if_neg q3, if_neg q4, if_pos q5] at k
            exact k
        · refine Ev_throw (pc := 30) d_TB_reserve_30 d_TB_reserve_33 d_TB_reserve_34 d_TB_reserve_36 d_TB_reserve_39 rfl rfl th_TB_64_193_68 rfl hZ ?_
          rw [f_TB_reserve, if_neg q1, if_neg q2, if_neg q3, if_pos q4] at k
          exact k
def f_TB_release (h : ev_H) (x1 : Int32) : (Option ev_V ⊕ Nat) × ev_H := (if (f_TB_isBelow x1 (gI h 0 0 3)) = 0 then (.inr 2, nx h) else (if (gI h 1 x1.toNatClampNeg 8) = 1 then (.inl (some (vI (gI h 1 x1.toNatClampNeg 9))), f_UN_store h x1.toNatClampNeg) else (.inr 1, nx h)))
theorem c_TB_release {E : ev_E} {P : Option ev_V ⊕ Nat → ev_H → Prop} {h : ev_H} {x1 : Int32} (hU : uok h) (hR : rfs h) (hZ : cZ h < ZM) (k : P (f_TB_release h x1).1 (f_TB_release h x1).2) : Ev E M_TB_release 0 [(0, vR 0 0), (1, vI x1)] [] h P := by
  refine Ev_aload_n (pc := 0) d_TB_release_0 rfl ?_
  refine Ev_iload_n (pc := 1) d_TB_release_1 rfl ?_
  by_cases q1 : (f_TB_isBelow x1 (gI h 0 0 3)) = 0
  · refine Ev_callV (M' := M_TB_unitAt) (as := [vI x1]) (st := []) (a := 0) (i := 0) (pc := 2) d_TB_release_2 rfl rfl rfl rfl rfl rfl rfl v_TB_unitAt lk_TB_76 rfl rfl (c_TB_unitAt hR hU hZ ?_)
    rw [f_TB_unitAt, if_pos q1]
    refine Or.inl ⟨rfl, ?_⟩
    rw [f_TB_release, if_pos q1] at k
    exact k
  · refine Ev_callV (M' := M_TB_unitAt) (as := [vI x1]) (st := []) (a := 0) (i := 0) (pc := 2) d_TB_release_2 rfl rfl rfl rfl rfl rfl rfl v_TB_unitAt lk_TB_76 rfl rfl (c_TB_unitAt hR hU hZ ?_)
    rw [f_TB_unitAt, if_neg q1]
    refine Ev_astore_n (pc := 5) d_TB_release_5 rfl ?_
    refine Ev_aload_n (pc := 6) d_TB_release_6 rfl ?_
    refine Ev_getI (pc := 7) d_TB_release_7 rfl rfl rfl fl_TB_82 ?_
    refine Ev_iconst (v := 1) (pc := 10) d_TB_release_10 (by decide) ?_
    refine Ev_icmp_eq (tgt := 24) (pc := 11) d_TB_release_11 rfl (fun q2 => ?_) (fun q2 => ?_)
    · refine Ev_aload_n (pc := 24) d_TB_release_24 rfl ?_
      refine Ev_getI (pc := 25) d_TB_release_25 rfl rfl rfl fl_TB_209 ?_
      refine Ev_istore_n (pc := 28) d_TB_release_28 rfl ?_
      refine Ev_aload_n (pc := 29) d_TB_release_29 rfl ?_
      refine Ev_callV (M' := M_UN_store) (as := []) (st := []) (a := 1) (i := x1.toNatClampNeg) (pc := 30) d_TB_release_30 rfl rfl rfl rfl rfl rfl rfl v_UN_store lk_TB_212 rfl rfl (c_UN_store  ?_)
      refine Ev_iload_n (pc := 33) d_TB_release_33 rfl ?_
      refine Ev_ireturn (pc := 34) d_TB_release_34 rfl rfl ?_
      rw [f_TB_release, if_neg q1, if_pos q2] at k
      exact k
    · refine Ev_throw (pc := 14) d_TB_release_14 d_TB_release_17 d_TB_release_18 d_TB_release_20 d_TB_release_23 rfl rfl th_TB_64_207_68 rfl hZ ?_
      rw [f_TB_release, if_neg q1, if_neg q2] at k
      exact k
def f_TB_giveBack (h : ev_H) (x1 : Int32) : (Option ev_V ⊕ Nat) × ev_H := (if (f_TB_isBelow x1 (gI h 0 0 3)) = 0 then (.inr 2, nx h) else (if (gI h 1 x1.toNatClampNeg 8) = 2 then (if ((gI h 0 0 5) - (gI h 1 x1.toNatClampNeg 11)) < 30 then (.inl (some (vI ((gI h 0 0 5) - (gI h 1 x1.toNatClampNeg 11)))), f_UN_store h x1.toNatClampNeg) else (.inr 1, nx h)) else (.inr 1, nx h)))
theorem c_TB_giveBack {E : ev_E} {P : Option ev_V ⊕ Nat → ev_H → Prop} {h : ev_H} {x1 : Int32} (hU : uok h) (hR : rfs h) (hZ : cZ h < ZM) (k : P (f_TB_giveBack h x1).1 (f_TB_giveBack h x1).2) : Ev E M_TB_giveBack 0 [(0, vR 0 0), (1, vI x1)] [] h P := by
  refine Ev_aload_n (pc := 0) d_TB_giveBack_0 rfl ?_
  refine Ev_iload_n (pc := 1) d_TB_giveBack_1 rfl ?_
  by_cases q1 : (f_TB_isBelow x1 (gI h 0 0 3)) = 0
  · refine Ev_callV (M' := M_TB_unitAt) (as := [vI x1]) (st := []) (a := 0) (i := 0) (pc := 2) d_TB_giveBack_2 rfl rfl rfl rfl rfl rfl rfl v_TB_unitAt lk_TB_76 rfl rfl (c_TB_unitAt hR hU hZ ?_)
    rw [f_TB_unitAt, if_pos q1]
    refine Or.inl ⟨rfl, ?_⟩
    rw [f_TB_giveBack, if_pos q1] at k
    exact k
  · refine Ev_callV (M' := M_TB_unitAt) (as := [vI x1]) (st := []) (a := 0) (i := 0) (pc := 2) d_TB_giveBack_2 rfl rfl rfl rfl rfl rfl rfl v_TB_unitAt lk_TB_76 rfl rfl (c_TB_unitAt hR hU hZ ?_)
    rw [f_TB_unitAt, if_neg q1]
    refine Ev_astore_n (pc := 5) d_TB_giveBack_5 rfl ?_
    refine Ev_aload_n (pc := 6) d_TB_giveBack_6 rfl ?_
    refine Ev_getI (pc := 7) d_TB_giveBack_7 rfl rfl rfl fl_TB_38 ?_
    refine Ev_aload_n (pc := 10) d_TB_giveBack_10 rfl ?_
    refine Ev_getI (pc := 11) d_TB_giveBack_11 rfl rfl rfl fl_TB_241 ?_
    refine Ev_isub (pc := 14) d_TB_giveBack_14 ?_
    refine Ev_istore_n (pc := 15) d_TB_giveBack_15 rfl ?_
    refine Ev_aload_n (pc := 16) d_TB_giveBack_16 rfl ?_
    refine Ev_getI (pc := 17) d_TB_giveBack_17 rfl rfl rfl fl_TB_82 ?_
    refine Ev_iconst (v := 2) (pc := 20) d_TB_giveBack_20 (by decide) ?_
    refine Ev_icmp_ne (tgt := 30) (pc := 21) d_TB_giveBack_21 rfl (fun q2 => ?_) (fun q2 => ?_)
    · refine Ev_throw (pc := 30) d_TB_giveBack_30 d_TB_giveBack_33 d_TB_giveBack_34 d_TB_giveBack_36 d_TB_giveBack_39 rfl rfl th_TB_64_244_68 rfl hZ ?_
      rw [f_TB_giveBack, if_neg q1, if_neg q2] at k
      exact k
    · refine Ev_iload_n (pc := 24) d_TB_giveBack_24 rfl ?_
      refine Ev_bipush (v := 30) (pc := 25) d_TB_giveBack_25 (by decide) ?_
      refine Ev_icmp_lt (tgt := 40) (pc := 27) d_TB_giveBack_27 rfl (fun q3 => ?_) (fun q3 => ?_)
      · refine Ev_aload_n (pc := 40) d_TB_giveBack_40 rfl ?_
        refine Ev_callV (M' := M_UN_store) (as := []) (st := []) (a := 1) (i := x1.toNatClampNeg) (pc := 41) d_TB_giveBack_41 rfl rfl rfl rfl rfl rfl rfl v_UN_store lk_TB_212 rfl rfl (c_UN_store  ?_)
        refine Ev_iload_n (pc := 44) d_TB_giveBack_44 rfl ?_
        refine Ev_ireturn (pc := 45) d_TB_giveBack_45 rfl rfl ?_
        rw [f_TB_giveBack, if_neg q1, if_pos q2, if_pos q3] at k
        exact k
      · refine Ev_throw (pc := 30) d_TB_giveBack_30 d_TB_giveBack_33 d_TB_giveBack_34 d_TB_giveBack_36 d_TB_giveBack_39 rfl rfl th_TB_64_244_68 rfl hZ ?_
        rw [f_TB_giveBack, if_neg q1, if_pos q2, if_neg q3] at k
        exact k
def f_TB_transfused (h : ev_H) (x1 : Int32) : (Option ev_V ⊕ Nat) × ev_H := (if (f_TB_isBelow x1 (gI h 0 0 3)) = 0 then (.inr 2, nx h) else (if (gI h 1 x1.toNatClampNeg 8) = 2 then (.inl (some (vI (gI (sI h 1 x1.toNatClampNeg 8 3) 1 x1.toNatClampNeg 9))), sI h 1 x1.toNatClampNeg 8 3) else (.inr 1, nx h)))
theorem c_TB_transfused {E : ev_E} {P : Option ev_V ⊕ Nat → ev_H → Prop} {h : ev_H} {x1 : Int32} (hU : uok h) (hR : rfs h) (hZ : cZ h < ZM) (k : P (f_TB_transfused h x1).1 (f_TB_transfused h x1).2) : Ev E M_TB_transfused 0 [(0, vR 0 0), (1, vI x1)] [] h P := by
  refine Ev_aload_n (pc := 0) d_TB_transfused_0 rfl ?_
  refine Ev_iload_n (pc := 1) d_TB_transfused_1 rfl ?_
  by_cases q1 : (f_TB_isBelow x1 (gI h 0 0 3)) = 0
  · refine Ev_callV (M' := M_TB_unitAt) (as := [vI x1]) (st := []) (a := 0) (i := 0) (pc := 2) d_TB_transfused_2 rfl rfl rfl rfl rfl rfl rfl v_TB_unitAt lk_TB_76 rfl rfl (c_TB_unitAt hR hU hZ ?_)
    rw [f_TB_unitAt, if_pos q1]
    refine Or.inl ⟨rfl, ?_⟩
    rw [f_TB_transfused, if_pos q1] at k
    exact k
  · refine Ev_callV (M' := M_TB_unitAt) (as := [vI x1]) (st := []) (a := 0) (i := 0) (pc := 2) d_TB_transfused_2 rfl rfl rfl rfl rfl rfl rfl v_TB_unitAt lk_TB_76 rfl rfl (c_TB_unitAt hR hU hZ ?_)
    rw [f_TB_unitAt, if_neg q1]
    refine Ev_astore_n (pc := 5) d_TB_transfused_5 rfl ?_
    refine Ev_aload_n (pc := 6) d_TB_transfused_6 rfl ?_
    refine Ev_getI (pc := 7) d_TB_transfused_7 rfl rfl rfl fl_TB_82 ?_
    refine Ev_iconst (v := 2) (pc := 10) d_TB_transfused_10 (by decide) ?_
    refine Ev_icmp_eq (tgt := 24) (pc := 11) d_TB_transfused_11 rfl (fun q2 => ?_) (fun q2 => ?_)
    · refine Ev_aload_n (pc := 24) d_TB_transfused_24 rfl ?_
      refine Ev_iconst (v := 3) (pc := 25) d_TB_transfused_25 (by decide) ?_
      refine Ev_putI (pc := 26) d_TB_transfused_26 rfl rfl rfl fl_TB_82 rfl ?_
      refine Ev_aload_n (pc := 29) d_TB_transfused_29 rfl ?_
      refine Ev_getI (pc := 30) d_TB_transfused_30 rfl rfl rfl fl_TB_209 ?_
      refine Ev_ireturn (pc := 33) d_TB_transfused_33 rfl rfl ?_
      rw [f_TB_transfused, if_neg q1, if_pos q2] at k
      exact k
    · refine Ev_throw (pc := 14) d_TB_transfused_14 d_TB_transfused_17 d_TB_transfused_18 d_TB_transfused_20 d_TB_transfused_23 rfl rfl th_TB_64_246_68 rfl hZ ?_
      rw [f_TB_transfused, if_neg q1, if_neg q2] at k
      exact k
def f_TB_discard (h : ev_H) (x1 : Int32) (x2 : Int32) : (Option ev_V ⊕ Nat) × ev_H := (if (f_TB_isBelow x1 (gI h 0 0 3)) = 0 then (.inr 2, nx h) else (if x2 < 1 then (.inr 0, nx h) else (if x2 ≤ 5 then (if (f_UN_isInHouse h x1.toNatClampNeg) = 0 then (if (gI h 1 x1.toNatClampNeg 8) = 2 then (.inl (some (vI (gI h 1 x1.toNatClampNeg 8))), f_UN_throwAway h x1.toNatClampNeg x2) else (.inr 1, nx h)) else (.inl (some (vI (gI h 1 x1.toNatClampNeg 8))), f_UN_throwAway h x1.toNatClampNeg x2)) else (.inr 0, nx h))))
theorem c_TB_discard {E : ev_E} {P : Option ev_V ⊕ Nat → ev_H → Prop} {h : ev_H} {x1 : Int32} {x2 : Int32} (hU : uok h) (hR : rfs h) (hZ : cZ h < ZM) (k : P (f_TB_discard h x1 x2).1 (f_TB_discard h x1 x2).2) : Ev E M_TB_discard 0 [(0, vR 0 0), (1, vI x1), (2, vI x2)] [] h P := by
  refine Ev_aload_n (pc := 0) d_TB_discard_0 rfl ?_
  refine Ev_iload_n (pc := 1) d_TB_discard_1 rfl ?_
  by_cases q1 : (f_TB_isBelow x1 (gI h 0 0 3)) = 0
  · refine Ev_callV (M' := M_TB_unitAt) (as := [vI x1]) (st := []) (a := 0) (i := 0) (pc := 2) d_TB_discard_2 rfl rfl rfl rfl rfl rfl rfl v_TB_unitAt lk_TB_76 rfl rfl (c_TB_unitAt hR hU hZ ?_)
    rw [f_TB_unitAt, if_pos q1]
    refine Or.inl ⟨rfl, ?_⟩
    rw [f_TB_discard, if_pos q1] at k
    exact k
  · refine Ev_callV (M' := M_TB_unitAt) (as := [vI x1]) (st := []) (a := 0) (i := 0) (pc := 2) d_TB_discard_2 rfl rfl rfl rfl rfl rfl rfl v_TB_unitAt lk_TB_76 rfl rfl (c_TB_unitAt hR hU hZ ?_)
    rw [f_TB_unitAt, if_neg q1]
    refine Ev_astore_n (pc := 5) d_TB_discard_5 rfl ?_
    refine Ev_iload_n (pc := 6) d_TB_discard_6 rfl ?_
    refine Ev_iconst (v := 1) (pc := 7) d_TB_discard_7 (by decide) ?_
    refine Ev_icmp_lt (tgt := 16) (pc := 8) d_TB_discard_8 rfl (fun q2 => ?_) (fun q2 => ?_)
    · refine Ev_throw (pc := 16) d_TB_discard_16 d_TB_discard_19 d_TB_discard_20 d_TB_discard_22 d_TB_discard_25 rfl rfl th_TB_31_248_35 rfl hZ ?_
      rw [f_TB_discard, if_neg q1, if_pos q2] at k
      exact k
    · refine Ev_iload_n (pc := 11) d_TB_discard_11 rfl ?_
      refine Ev_iconst (v := 5) (pc := 12) d_TB_discard_12 (by decide) ?_
      refine Ev_icmp_le (tgt := 26) (pc := 13) d_TB_discard_13 rfl (fun q3 => ?_) (fun q3 => ?_)
      · refine Ev_aload_n (pc := 26) d_TB_discard_26 rfl ?_
        refine Ev_callV (M' := M_UN_isInHouse) (as := []) (st := []) (a := 1) (i := x1.toNatClampNeg) (pc := 27) d_TB_discard_27 rfl rfl rfl rfl rfl rfl rfl v_UN_isInHouse lk_TB_182 rfl rfl (c_UN_isInHouse  ?_)
        refine Ev_if_ne (tgt := 51) (pc := 30) d_TB_discard_30 rfl (fun q4 => ?_) (fun q4 => ?_)
        · refine Ev_aload_n (pc := 51) d_TB_discard_51 rfl ?_
          refine Ev_getI (pc := 52) d_TB_discard_52 rfl rfl rfl fl_TB_82 ?_
          refine Ev_istore (pc := 55) d_TB_discard_55 rfl ?_
          refine Ev_aload_n (pc := 57) d_TB_discard_57 rfl ?_
          refine Ev_iload_n (pc := 58) d_TB_discard_58 rfl ?_
          refine Ev_callV (M' := M_UN_throwAway) (as := [vI x2]) (st := []) (a := 1) (i := x1.toNatClampNeg) (pc := 59) d_TB_discard_59 rfl rfl rfl rfl rfl rfl rfl v_UN_throwAway lk_TB_252 rfl rfl (c_UN_throwAway  ?_)
          refine Ev_iload (pc := 62) d_TB_discard_62 rfl ?_
          refine Ev_ireturn (pc := 64) d_TB_discard_64 rfl rfl ?_
          rw [f_TB_discard, if_neg q1, if_neg q2, if_pos q3, if_neg q4] at k
          exact k
        · refine Ev_aload_n (pc := 33) d_TB_discard_33 rfl ?_
          refine Ev_getI (pc := 34) d_TB_discard_34 rfl rfl rfl fl_TB_82 ?_
          refine Ev_iconst (v := 2) (pc := 37) d_TB_discard_37 (by decide) ?_
          refine Ev_icmp_eq (tgt := 51) (pc := 38) d_TB_discard_38 rfl (fun q5 => ?_) (fun q5 => ?_)
          · refine Ev_aload_n (pc := 51) d_TB_discard_51 rfl ?_
            refine Ev_getI (pc := 52) d_TB_discard_52 rfl rfl rfl fl_TB_82 ?_
            refine Ev_istore (pc := 55) d_TB_discard_55 rfl ?_
            refine Ev_aload_n (pc := 57) d_TB_discard_57 rfl ?_
            refine Ev_iload_n (pc := 58) d_TB_discard_58 rfl ?_
            refine Ev_callV (M' := M_UN_throwAway) (as := [vI x2]) (st := []) (a := 1) (i := x1.toNatClampNeg) (pc := 59) d_TB_discard_59 rfl rfl rfl rfl rfl rfl rfl v_UN_throwAway lk_TB_252 rfl rfl (c_UN_throwAway  ?_)
            refine Ev_iload (pc := 62) d_TB_discard_62 rfl ?_
            refine Ev_ireturn (pc := 64) d_TB_discard_64 rfl rfl ?_
            rw [f_TB_discard, if_neg q1, if_neg q2, if_pos q3, if_pos q4, if_pos q5] at k
            exact k
          · refine Ev_throw (pc := 41) d_TB_discard_41 d_TB_discard_44 d_TB_discard_45 d_TB_discard_47 d_TB_discard_50 rfl rfl th_TB_64_250_68 rfl hZ ?_
            rw [f_TB_discard, if_neg q1, if_neg q2, if_pos q3, if_pos q4, if_neg q5] at k
            exact k
      · refine Ev_throw (pc := 16) d_TB_discard_16 d_TB_discard_19 d_TB_discard_20 d_TB_discard_22 d_TB_discard_25 rfl rfl th_TB_31_248_35 rfl hZ ?_
        rw [f_TB_discard, if_neg q1, if_neg q2, if_neg q3] at k
        exact k
def f_TB_of (h : ev_H) (x1 : Int32) (x2 : Int32) : (Option ev_V ⊕ Nat) × ev_H := (if (f_TB_isBelow x1 (gI h 0 0 3)) = 0 then (.inr 2, nx h) else (if x2 = 0 then (.inl (some (vI (gI h 1 x1.toNatClampNeg 8))), h) else (if x2 = 1 then (.inl (some (vI (gI h 1 x1.toNatClampNeg 0))), h) else (if x2 = 2 then (.inl (some (vI (gI h 1 x1.toNatClampNeg 1))), h) else (if x2 = 3 then (.inl (some (vI (gI h 1 x1.toNatClampNeg 2))), h) else (if x2 = 4 then (.inl (some (vI (gI h 1 x1.toNatClampNeg 7))), h) else (if x2 = 5 then (.inl (some (vI (gI h 1 x1.toNatClampNeg 4))), h) else (if x2 = 6 then (.inl (some (vI (gI h 1 x1.toNatClampNeg 9))), h) else (if x2 = 7 then (if (f_UN_isBarred h x1.toNatClampNeg (gI h 0 0 6)) = 0 then (.inl (some (vI 0)), h) else (.inl (some (vI 1)), h)) else (if x2 = 8 then (.inl (some (vI (gI h 1 x1.toNatClampNeg 13))), h) else (if x2 = 9 then (.inl (some (vI (gI h 1 x1.toNatClampNeg 14))), h) else (.inr 4, nx h))))))))))))
theorem c_TB_of {E : ev_E} {P : Option ev_V ⊕ Nat → ev_H → Prop} {h : ev_H} {x1 : Int32} {x2 : Int32} (hU : uok h) (hR : rfs h) (hZ : cZ h < ZM) (k : P (f_TB_of h x1 x2).1 (f_TB_of h x1 x2).2) : Ev E M_TB_of 0 [(0, vR 0 0), (1, vI x1), (2, vI x2)] [] h P := by
  refine Ev_aload_n (pc := 0) d_TB_of_0 rfl ?_
  refine Ev_iload_n (pc := 1) d_TB_of_1 rfl ?_
  by_cases q1 : (f_TB_isBelow x1 (gI h 0 0 3)) = 0
  · refine Ev_callV (M' := M_TB_unitAt) (as := [vI x1]) (st := []) (a := 0) (i := 0) (pc := 2) d_TB_of_2 rfl rfl rfl rfl rfl rfl rfl v_TB_unitAt lk_TB_76 rfl rfl (c_TB_unitAt hR hU hZ ?_)
    rw [f_TB_unitAt, if_pos q1]
    refine Or.inl ⟨rfl, ?_⟩
    rw [f_TB_of, if_pos q1] at k
    exact k
  · refine Ev_callV (M' := M_TB_unitAt) (as := [vI x1]) (st := []) (a := 0) (i := 0) (pc := 2) d_TB_of_2 rfl rfl rfl rfl rfl rfl rfl v_TB_unitAt lk_TB_76 rfl rfl (c_TB_unitAt hR hU hZ ?_)
    rw [f_TB_unitAt, if_neg q1]
    refine Ev_astore_n (pc := 5) d_TB_of_5 rfl ?_
    refine Ev_iload_n (pc := 6) d_TB_of_6 rfl ?_
    by_cases q2 : x2 = 0
    · refine Ev_tblIn (pc := 7) (tgt := 60) (off := 53) d_TB_of_7 (by rw [q2]; decide) (by rw [q2]; decide) (by rw [q2]; rfl) rfl ?_
      refine Ev_aload_n (pc := 60) d_TB_of_60 rfl ?_
      refine Ev_getI (pc := 61) d_TB_of_61 rfl rfl rfl fl_TB_82 ?_
      refine Ev_ireturn (pc := 64) d_TB_of_64 rfl rfl ?_
      rw [f_TB_of, if_neg q1, if_pos q2] at k
      exact k
    by_cases q3 : x2 = 1
    · refine Ev_tblIn (pc := 7) (tgt := 65) (off := 58) d_TB_of_7 (by rw [q3]; decide) (by rw [q3]; decide) (by rw [q3]; rfl) rfl ?_
      refine Ev_aload_n (pc := 65) d_TB_of_65 rfl ?_
      refine Ev_getI (pc := 66) d_TB_of_66 rfl rfl rfl fl_TB_99 ?_
      refine Ev_ireturn (pc := 69) d_TB_of_69 rfl rfl ?_
      rw [f_TB_of, if_neg q1, if_neg q2, if_pos q3] at k
      exact k
    by_cases q4 : x2 = 2
    · refine Ev_tblIn (pc := 7) (tgt := 70) (off := 63) d_TB_of_7 (by rw [q4]; decide) (by rw [q4]; decide) (by rw [q4]; rfl) rfl ?_
      refine Ev_aload_n (pc := 70) d_TB_of_70 rfl ?_
      refine Ev_getI (pc := 71) d_TB_of_71 rfl rfl rfl fl_TB_128 ?_
      refine Ev_ireturn (pc := 74) d_TB_of_74 rfl rfl ?_
      rw [f_TB_of, if_neg q1, if_neg q2, if_neg q3, if_pos q4] at k
      exact k
    by_cases q5 : x2 = 3
    · refine Ev_tblIn (pc := 7) (tgt := 75) (off := 68) d_TB_of_7 (by rw [q5]; decide) (by rw [q5]; decide) (by rw [q5]; rfl) rfl ?_
      refine Ev_aload_n (pc := 75) d_TB_of_75 rfl ?_
      refine Ev_getI (pc := 76) d_TB_of_76 rfl rfl rfl fl_TB_131 ?_
      refine Ev_ireturn (pc := 79) d_TB_of_79 rfl rfl ?_
      rw [f_TB_of, if_neg q1, if_neg q2, if_neg q3, if_neg q4, if_pos q5] at k
      exact k
    by_cases q6 : x2 = 4
    · refine Ev_tblIn (pc := 7) (tgt := 80) (off := 73) d_TB_of_7 (by rw [q6]; decide) (by rw [q6]; decide) (by rw [q6]; rfl) rfl ?_
      refine Ev_aload_n (pc := 80) d_TB_of_80 rfl ?_
      refine Ev_getI (pc := 81) d_TB_of_81 rfl rfl rfl fl_TB_263 ?_
      refine Ev_ireturn (pc := 84) d_TB_of_84 rfl rfl ?_
      rw [f_TB_of, if_neg q1, if_neg q2, if_neg q3, if_neg q4, if_neg q5, if_pos q6] at k
      exact k
    by_cases q7 : x2 = 5
    · refine Ev_tblIn (pc := 7) (tgt := 85) (off := 78) d_TB_of_7 (by rw [q7]; decide) (by rw [q7]; decide) (by rw [q7]; rfl) rfl ?_
      refine Ev_aload_n (pc := 85) d_TB_of_85 rfl ?_
      refine Ev_getI (pc := 86) d_TB_of_86 rfl rfl rfl fl_TB_266 ?_
      refine Ev_ireturn (pc := 89) d_TB_of_89 rfl rfl ?_
      rw [f_TB_of, if_neg q1, if_neg q2, if_neg q3, if_neg q4, if_neg q5, if_neg q6, if_pos q7] at k
      exact k
    by_cases q8 : x2 = 6
    · refine Ev_tblIn (pc := 7) (tgt := 90) (off := 83) d_TB_of_7 (by rw [q8]; decide) (by rw [q8]; decide) (by rw [q8]; rfl) rfl ?_
      refine Ev_aload_n (pc := 90) d_TB_of_90 rfl ?_
      refine Ev_getI (pc := 91) d_TB_of_91 rfl rfl rfl fl_TB_209 ?_
      refine Ev_ireturn (pc := 94) d_TB_of_94 rfl rfl ?_
      rw [f_TB_of, if_neg q1, if_neg q2, if_neg q3, if_neg q4, if_neg q5, if_neg q6, if_neg q7, if_pos q8] at k
      exact k
    by_cases q9 : x2 = 7
    · refine Ev_tblIn (pc := 7) (tgt := 95) (off := 88) d_TB_of_7 (by rw [q9]; decide) (by rw [q9]; decide) (by rw [q9]; rfl) rfl ?_
      refine Ev_aload_n (pc := 95) d_TB_of_95 rfl ?_
      refine Ev_aload_n (pc := 96) d_TB_of_96 rfl ?_
      refine Ev_getI (pc := 97) d_TB_of_97 rfl rfl rfl fl_TB_257 ?_
      refine Ev_callV (M' := M_UN_isBarred) (as := [vI (gI h 0 0 6)]) (st := []) (a := 1) (i := x1.toNatClampNeg) (pc := 100) d_TB_of_100 rfl rfl rfl rfl rfl rfl rfl v_UN_isBarred lk_TB_260 rfl rfl (c_UN_isBarred  ?_)
      refine Ev_if_eq (tgt := 110) (pc := 103) d_TB_of_103 rfl (fun q10 => ?_) (fun q10 => ?_)
      · refine Ev_iconst (v := 0) (pc := 110) d_TB_of_110 (by decide) ?_
        refine Ev_ireturn (pc := 111) d_TB_of_111 rfl rfl ?_
        rw [f_TB_of, if_neg q1, if_neg q2, if_neg q3, if_neg q4, if_neg q5, if_neg q6, if_neg q7, if_neg q8, if_pos q9, if_pos q10] at k
        exact k
      · refine Ev_iconst (v := 1) (pc := 106) d_TB_of_106 (by decide) ?_
        refine Ev_goto (tgt := 111) (pc := 107) d_TB_of_107 rfl ?_
        refine Ev_ireturn (pc := 111) d_TB_of_111 rfl rfl ?_
        rw [f_TB_of, if_neg q1, if_neg q2, if_neg q3, if_neg q4, if_neg q5, if_neg q6, if_neg q7, if_neg q8, if_pos q9, if_neg q10] at k
        exact k
    by_cases q11 : x2 = 8
    · refine Ev_tblIn (pc := 7) (tgt := 112) (off := 105) d_TB_of_7 (by rw [q11]; decide) (by rw [q11]; decide) (by rw [q11]; rfl) rfl ?_
      refine Ev_aload_n (pc := 112) d_TB_of_112 rfl ?_
      refine Ev_getI (pc := 113) d_TB_of_113 rfl rfl rfl fl_TB_269 ?_
      refine Ev_ireturn (pc := 116) d_TB_of_116 rfl rfl ?_
      rw [f_TB_of, if_neg q1, if_neg q2, if_neg q3, if_neg q4, if_neg q5, if_neg q6, if_neg q7, if_neg q8, if_neg q9, if_pos q11] at k
      exact k
    by_cases q12 : x2 = 9
    · refine Ev_tblIn (pc := 7) (tgt := 117) (off := 110) d_TB_of_7 (by rw [q12]; decide) (by rw [q12]; decide) (by rw [q12]; rfl) rfl ?_
      refine Ev_aload_n (pc := 117) d_TB_of_117 rfl ?_
      refine Ev_getI (pc := 118) d_TB_of_118 rfl rfl rfl fl_TB_272 ?_
      refine Ev_ireturn (pc := 121) d_TB_of_121 rfl rfl ?_
      rw [f_TB_of, if_neg q1, if_neg q2, if_neg q3, if_neg q4, if_neg q5, if_neg q6, if_neg q7, if_neg q8, if_neg q9, if_neg q11, if_pos q12] at k
      exact k
    refine Ev_tblOut (pc := 7) (tgt := 122) d_TB_of_7 (by have e0 := lv_neT (a := 0) q2 (by decide); have e1 := lv_neT (a := 1) q3 (by decide); have e2 := lv_neT (a := 2) q4 (by decide); have e3 := lv_neT (a := 3) q5 (by decide); have e4 := lv_neT (a := 4) q6 (by decide); have e5 := lv_neT (a := 5) q7 (by decide); have e6 := lv_neT (a := 6) q8 (by decide); have e7 := lv_neT (a := 7) q9 (by decide); have e8 := lv_neT (a := 8) q11 (by decide); have e9 := lv_neT (a := 9) q12 (by decide); omega) rfl ?_
    refine Ev_throwW (pc := 122) d_TB_of_122 d_TB_of_125 d_TB_of_126 d_TB_of_129 d_TB_of_132 rfl rfl th_TB_275_277_279 rfl hZ ?_
    rw [f_TB_of, if_neg q1, if_neg q2, if_neg q3, if_neg q4, if_neg q5, if_neg q6, if_neg q7, if_neg q8, if_neg q9, if_neg q11, if_neg q12] at k
    exact k
def f_TB_has (h : ev_H) (x1 : Int32) (x2 : Int32) : (Option ev_V ⊕ Nat) × ev_H := (if (f_TB_isBelow x1 (gI h 0 0 3)) = 0 then (.inr 2, nx h) else (if (f_TB_isBelow x2 8) = 0 then (.inr 4, nx h) else (.inl (some (vI (f_UN_antigenValue h x1.toNatClampNeg x2))), h)))
theorem c_TB_has {E : ev_E} {P : Option ev_V ⊕ Nat → ev_H → Prop} {h : ev_H} {x1 : Int32} {x2 : Int32} (hU : uok h) (hR : rfs h) (hZ : cZ h < ZM) (k : P (f_TB_has h x1 x2).1 (f_TB_has h x1 x2).2) : Ev E M_TB_has 0 [(0, vR 0 0), (1, vI x1), (2, vI x2)] [] h P := by
  refine Ev_aload_n (pc := 0) d_TB_has_0 rfl ?_
  refine Ev_iload_n (pc := 1) d_TB_has_1 rfl ?_
  by_cases q1 : (f_TB_isBelow x1 (gI h 0 0 3)) = 0
  · refine Ev_callV (M' := M_TB_unitAt) (as := [vI x1]) (st := []) (a := 0) (i := 0) (pc := 2) d_TB_has_2 rfl rfl rfl rfl rfl rfl rfl v_TB_unitAt lk_TB_76 rfl rfl (c_TB_unitAt hR hU hZ ?_)
    rw [f_TB_unitAt, if_pos q1]
    refine Or.inl ⟨rfl, ?_⟩
    rw [f_TB_has, if_pos q1] at k
    exact k
  · refine Ev_callV (M' := M_TB_unitAt) (as := [vI x1]) (st := []) (a := 0) (i := 0) (pc := 2) d_TB_has_2 rfl rfl rfl rfl rfl rfl rfl v_TB_unitAt lk_TB_76 rfl rfl (c_TB_unitAt hR hU hZ ?_)
    rw [f_TB_unitAt, if_neg q1]
    refine Ev_astore_n (pc := 5) d_TB_has_5 rfl ?_
    refine Ev_iload_n (pc := 6) d_TB_has_6 rfl ?_
    refine Ev_bipush (v := 8) (pc := 7) d_TB_has_7 (by decide) ?_
    refine Ev_callS (M' := M_TB_isBelow) (as := [vI x2, vI 8]) (st := []) (pc := 9) d_TB_has_9 rfl rfl rfl s_TB_isBelow lk_TB_48 rfl rfl (c_TB_isBelow  ?_)
    refine Ev_if_ne (tgt := 25) (pc := 12) d_TB_has_12 rfl (fun q2 => ?_) (fun q2 => ?_)
    · refine Ev_aload_n (pc := 25) d_TB_has_25 rfl ?_
      refine Ev_iload_n (pc := 26) d_TB_has_26 rfl ?_
      refine Ev_callV (M' := M_UN_antigenValue) (as := [vI x2]) (st := []) (a := 1) (i := x1.toNatClampNeg) (pc := 27) d_TB_has_27 rfl rfl rfl rfl rfl rfl rfl v_UN_antigenValue lk_TB_280 rfl rfl (c_UN_antigenValue  ?_)
      refine Ev_ireturn (pc := 30) d_TB_has_30 rfl rfl ?_
      rw [f_TB_has, if_neg q1, if_neg q2] at k
      exact k
    · refine Ev_throw (pc := 15) d_TB_has_15 d_TB_has_18 d_TB_has_19 d_TB_has_21 d_TB_has_24 rfl rfl th_TB_275_166_279 rfl hZ ?_
      rw [f_TB_has, if_neg q1, if_pos q2] at k
      exact k
def f_TB_who (h : ev_H) (x1 : Int32) (x2 : Int32) : (Option ev_V ⊕ Nat) × ev_H := (if (f_TB_isBelow x1 (gI h 0 0 4)) = 0 then (.inr 2, nx h) else (if x2 = 0 then (.inl (some (vI (gI h 2 x1.toNatClampNeg 0))), h) else (if x2 = 1 then (if (gI h 2 x1.toNatClampNeg 0) = 1 then (.inl (some (vI (gI h 2 x1.toNatClampNeg 1))), h) else (.inl (some (vI (-1))), h)) else (if x2 = 2 then (if (gI h 2 x1.toNatClampNeg 0) = 1 then (.inl (some (vI (gI h 2 x1.toNatClampNeg 2))), h) else (.inl (some (vI (-1))), h)) else (if x2 = 3 then (.inl (some (vI (gI h 2 x1.toNatClampNeg 4))), h) else (if x2 = 4 then (.inl (some (vI (gI h 2 x1.toNatClampNeg 5))), h) else (.inr 4, nx h)))))))
theorem c_TB_who {E : ev_E} {P : Option ev_V ⊕ Nat → ev_H → Prop} {h : ev_H} {x1 : Int32} {x2 : Int32} (hP : pok h) (hR : rfs h) (hZ : cZ h < ZM) (k : P (f_TB_who h x1 x2).1 (f_TB_who h x1 x2).2) : Ev E M_TB_who 0 [(0, vR 0 0), (1, vI x1), (2, vI x2)] [] h P := by
  refine Ev_aload_n (pc := 0) d_TB_who_0 rfl ?_
  refine Ev_iload_n (pc := 1) d_TB_who_1 rfl ?_
  by_cases q1 : (f_TB_isBelow x1 (gI h 0 0 4)) = 0
  · refine Ev_callV (M' := M_TB_patientAt) (as := [vI x1]) (st := []) (a := 0) (i := 0) (pc := 2) d_TB_who_2 rfl rfl rfl rfl rfl rfl rfl v_TB_patientAt lk_TB_146 rfl rfl (c_TB_patientAt hR hP hZ ?_)
    rw [f_TB_patientAt, if_pos q1]
    refine Or.inl ⟨rfl, ?_⟩
    rw [f_TB_who, if_pos q1] at k
    exact k
  · refine Ev_callV (M' := M_TB_patientAt) (as := [vI x1]) (st := []) (a := 0) (i := 0) (pc := 2) d_TB_who_2 rfl rfl rfl rfl rfl rfl rfl v_TB_patientAt lk_TB_146 rfl rfl (c_TB_patientAt hR hP hZ ?_)
    rw [f_TB_patientAt, if_neg q1]
    refine Ev_astore_n (pc := 5) d_TB_who_5 rfl ?_
    refine Ev_iload_n (pc := 6) d_TB_who_6 rfl ?_
    by_cases q2 : x2 = 0
    · refine Ev_tblIn (pc := 7) (tgt := 40) (off := 33) d_TB_who_7 (by rw [q2]; decide) (by rw [q2]; decide) (by rw [q2]; rfl) rfl ?_
      refine Ev_aload_n (pc := 40) d_TB_who_40 rfl ?_
      refine Ev_getI (pc := 41) d_TB_who_41 rfl rfl rfl fl_TB_152 ?_
      refine Ev_ireturn (pc := 44) d_TB_who_44 rfl rfl ?_
      rw [f_TB_who, if_neg q1, if_pos q2] at k
      exact k
    by_cases q3 : x2 = 1
    · refine Ev_tblIn (pc := 7) (tgt := 45) (off := 38) d_TB_who_7 (by rw [q3]; decide) (by rw [q3]; decide) (by rw [q3]; rfl) rfl ?_
      refine Ev_aload_n (pc := 45) d_TB_who_45 rfl ?_
      refine Ev_getI (pc := 46) d_TB_who_46 rfl rfl rfl fl_TB_152 ?_
      refine Ev_iconst (v := 1) (pc := 49) d_TB_who_49 (by decide) ?_
      refine Ev_icmp_ne (tgt := 60) (pc := 50) d_TB_who_50 rfl (fun q4 => ?_) (fun q4 => ?_)
      · refine Ev_iconst (v := -1) (pc := 60) d_TB_who_60 (by decide) ?_
        refine Ev_ireturn (pc := 61) d_TB_who_61 rfl rfl ?_
        rw [f_TB_who, if_neg q1, if_neg q2, if_pos q3, if_neg q4] at k
        exact k
      · refine Ev_aload_n (pc := 53) d_TB_who_53 rfl ?_
        refine Ev_getI (pc := 54) d_TB_who_54 rfl rfl rfl fl_TB_283 ?_
        refine Ev_goto (tgt := 61) (pc := 57) d_TB_who_57 rfl ?_
        refine Ev_ireturn (pc := 61) d_TB_who_61 rfl rfl ?_
        rw [f_TB_who, if_neg q1, if_neg q2, if_pos q3, if_pos q4] at k
        exact k
    by_cases q5 : x2 = 2
    · refine Ev_tblIn (pc := 7) (tgt := 62) (off := 55) d_TB_who_7 (by rw [q5]; decide) (by rw [q5]; decide) (by rw [q5]; rfl) rfl ?_
      refine Ev_aload_n (pc := 62) d_TB_who_62 rfl ?_
      refine Ev_getI (pc := 63) d_TB_who_63 rfl rfl rfl fl_TB_152 ?_
      refine Ev_iconst (v := 1) (pc := 66) d_TB_who_66 (by decide) ?_
      refine Ev_icmp_ne (tgt := 77) (pc := 67) d_TB_who_67 rfl (fun q6 => ?_) (fun q6 => ?_)
      · refine Ev_iconst (v := -1) (pc := 77) d_TB_who_77 (by decide) ?_
        refine Ev_ireturn (pc := 78) d_TB_who_78 rfl rfl ?_
        rw [f_TB_who, if_neg q1, if_neg q2, if_neg q3, if_pos q5, if_neg q6] at k
        exact k
      · refine Ev_aload_n (pc := 70) d_TB_who_70 rfl ?_
        refine Ev_getI (pc := 71) d_TB_who_71 rfl rfl rfl fl_TB_284 ?_
        refine Ev_goto (tgt := 78) (pc := 74) d_TB_who_74 rfl ?_
        refine Ev_ireturn (pc := 78) d_TB_who_78 rfl rfl ?_
        rw [f_TB_who, if_neg q1, if_neg q2, if_neg q3, if_pos q5, if_pos q6] at k
        exact k
    by_cases q7 : x2 = 3
    · refine Ev_tblIn (pc := 7) (tgt := 79) (off := 72) d_TB_who_7 (by rw [q7]; decide) (by rw [q7]; decide) (by rw [q7]; rfl) rfl ?_
      refine Ev_aload_n (pc := 79) d_TB_who_79 rfl ?_
      refine Ev_getI (pc := 80) d_TB_who_80 rfl rfl rfl fl_TB_168 ?_
      refine Ev_ireturn (pc := 83) d_TB_who_83 rfl rfl ?_
      rw [f_TB_who, if_neg q1, if_neg q2, if_neg q3, if_neg q5, if_pos q7] at k
      exact k
    by_cases q8 : x2 = 4
    · refine Ev_tblIn (pc := 7) (tgt := 84) (off := 77) d_TB_who_7 (by rw [q8]; decide) (by rw [q8]; decide) (by rw [q8]; rfl) rfl ?_
      refine Ev_aload_n (pc := 84) d_TB_who_84 rfl ?_
      refine Ev_getI (pc := 85) d_TB_who_85 rfl rfl rfl fl_TB_179 ?_
      refine Ev_ireturn (pc := 88) d_TB_who_88 rfl rfl ?_
      rw [f_TB_who, if_neg q1, if_neg q2, if_neg q3, if_neg q5, if_neg q7, if_pos q8] at k
      exact k
    refine Ev_tblOut (pc := 7) (tgt := 89) d_TB_who_7 (by have e0 := lv_neT (a := 0) q2 (by decide); have e1 := lv_neT (a := 1) q3 (by decide); have e2 := lv_neT (a := 2) q5 (by decide); have e3 := lv_neT (a := 3) q7 (by decide); have e4 := lv_neT (a := 4) q8 (by decide); omega) rfl ?_
    refine Ev_throwW (pc := 89) d_TB_who_89 d_TB_who_92 d_TB_who_93 d_TB_who_96 d_TB_who_99 rfl rfl th_TB_275_277_279 rfl hZ ?_
    rw [f_TB_who, if_neg q1, if_neg q2, if_neg q3, if_neg q5, if_neg q7, if_neg q8] at k
    exact k
def f_TB_why (h : ev_H) (x1 : Int32) (x2 : Int32) : (Option ev_V ⊕ Nat) × ev_H := (if (f_TB_isBelow x1 (gI h 0 0 4)) = 0 then (.inr 2, nx h) else (if (f_TB_isBelow x2 (gI h 0 0 3)) = 0 then (.inr 2, nx h) else (.inl (some (vI (f_RU_reason h x1.toNatClampNeg x2.toNatClampNeg))), h)))
theorem c_TB_why {E : ev_E} {P : Option ev_V ⊕ Nat → ev_H → Prop} {h : ev_H} {x1 : Int32} {x2 : Int32} (hP : pok h) (hR : rfs h) (hZ : cZ h < ZM) (hU : uok h) (k : P (f_TB_why h x1 x2).1 (f_TB_why h x1 x2).2) : Ev E M_TB_why 0 [(0, vR 0 0), (1, vI x1), (2, vI x2)] [] h P := by
  refine Ev_aload_n (pc := 0) d_TB_why_0 rfl ?_
  refine Ev_iload_n (pc := 1) d_TB_why_1 rfl ?_
  by_cases q1 : (f_TB_isBelow x1 (gI h 0 0 4)) = 0
  · refine Ev_callV (M' := M_TB_patientAt) (as := [vI x1]) (st := []) (a := 0) (i := 0) (pc := 2) d_TB_why_2 rfl rfl rfl rfl rfl rfl rfl v_TB_patientAt lk_TB_146 rfl rfl (c_TB_patientAt hR hP hZ ?_)
    rw [f_TB_patientAt, if_pos q1]
    refine Or.inl ⟨rfl, ?_⟩
    rw [f_TB_why, if_pos q1] at k
    exact k
  · refine Ev_callV (M' := M_TB_patientAt) (as := [vI x1]) (st := []) (a := 0) (i := 0) (pc := 2) d_TB_why_2 rfl rfl rfl rfl rfl rfl rfl v_TB_patientAt lk_TB_146 rfl rfl (c_TB_patientAt hR hP hZ ?_)
    rw [f_TB_patientAt, if_neg q1]
    refine Ev_astore_n (pc := 5) d_TB_why_5 rfl ?_
    refine Ev_aload_n (pc := 6) d_TB_why_6 rfl ?_
    refine Ev_iload_n (pc := 7) d_TB_why_7 rfl ?_
    by_cases q2 : (f_TB_isBelow x2 (gI h 0 0 3)) = 0
    · refine Ev_callV (M' := M_TB_unitAt) (as := [vI x2]) (st := []) (a := 0) (i := 0) (pc := 8) d_TB_why_8 rfl rfl rfl rfl rfl rfl rfl v_TB_unitAt lk_TB_76 rfl rfl (c_TB_unitAt hR hU hZ ?_)
      rw [f_TB_unitAt, if_pos q2]
      refine Or.inl ⟨rfl, ?_⟩
      rw [f_TB_why, if_neg q1, if_pos q2] at k
      exact k
    · refine Ev_callV (M' := M_TB_unitAt) (as := [vI x2]) (st := []) (a := 0) (i := 0) (pc := 8) d_TB_why_8 rfl rfl rfl rfl rfl rfl rfl v_TB_unitAt lk_TB_76 rfl rfl (c_TB_unitAt hR hU hZ ?_)
      rw [f_TB_unitAt, if_neg q2]
      refine Ev_astore (pc := 11) d_TB_why_11 rfl ?_
      refine Ev_aload_n (pc := 13) d_TB_why_13 rfl ?_
      refine Ev_aload (pc := 14) d_TB_why_14 rfl ?_
      refine Ev_callS (M' := M_RU_reason) (as := [vR 2 x1.toNatClampNeg, vR 1 x2.toNatClampNeg]) (st := []) (pc := 16) d_TB_why_16 rfl rfl rfl s_RU_reason lk_TB_233 rfl rfl (c_RU_reason  ?_)
      refine Ev_ireturn (pc := 19) d_TB_why_19 rfl rfl ?_
      rw [f_TB_why, if_neg q1, if_neg q2] at k
      exact k
def f_TB_keep (h : ev_H) (u : Nat) : Int32 × ev_H := (((gI (sI (sR h 0 1 (gI h 0 0 3).toNatClampNeg (vR 1 u)) 0 0 3 ((gI (sR h 0 1 (gI h 0 0 3).toNatClampNeg (vR 1 u)) 0 0 3) + 1)) 0 0 3) - 1), (sI (sR h 0 1 (gI h 0 0 3).toNatClampNeg (vR 1 u)) 0 0 3 ((gI (sR h 0 1 (gI h 0 0 3).toNatClampNeg (vR 1 u)) 0 0 3) + 1)))
theorem c_TB_keep {E : ev_E} {P : Option ev_V ⊕ Nat → ev_H → Prop} {h : ev_H} {u : Nat} (hR : rfs h) (n1 : ¬ (gI h 0 0 3) < 0) (n2 : (gI h 0 0 3).toNatClampNeg < 48) (k : P (.inl (some (vI (f_TB_keep h u).1))) (f_TB_keep h u).2) : Ev E M_TB_keep 0 [(0, vR 0 0), (1, vR 1 u)] [] h P := by
  refine Ev_aload_n (pc := 0) d_TB_keep_0 rfl ?_
  refine Ev_getR (pc := 1) d_TB_keep_1 rfl rfl rfl fl_TB_11 (rf_TB_0 hR) ?_
  refine Ev_aload_n (pc := 4) d_TB_keep_4 rfl ?_
  refine Ev_getI (pc := 5) d_TB_keep_5 rfl rfl rfl fl_TB_42 ?_
  refine Ev_aload_n (pc := 8) d_TB_keep_8 rfl ?_
  refine Ev_aast (pc := 9) d_TB_keep_9 rfl rfl (Or.inl rfl) rfl rfl n1 n2 ?_
  refine Ev_aload_n (pc := 10) d_TB_keep_10 rfl ?_
  refine Ev_dup (pc := 11) d_TB_keep_11 rfl ?_
  refine Ev_getI (pc := 12) d_TB_keep_12 rfl rfl rfl fl_TB_42 ?_
  refine Ev_iconst (v := 1) (pc := 15) d_TB_keep_15 (by decide) ?_
  refine Ev_iadd (pc := 16) d_TB_keep_16 ?_
  refine Ev_putI (pc := 17) d_TB_keep_17 rfl rfl rfl fl_TB_42 rfl ?_
  refine Ev_aload_n (pc := 20) d_TB_keep_20 rfl ?_
  refine Ev_getI (pc := 21) d_TB_keep_21 rfl rfl rfl fl_TB_42 ?_
  refine Ev_iconst (v := 1) (pc := 24) d_TB_keep_24 (by decide) ?_
  refine Ev_isub (pc := 25) d_TB_keep_25 ?_
  refine Ev_ireturn (pc := 26) d_TB_keep_26 rfl rfl ?_
  rw [f_TB_keep] at k
  exact k
def hp_TB_keepProduct_46 (h : ev_H) (u : Nat) (x2 : Int32) (x3 : Int32) (x4 : Int32) : ev_H := sI (f_UN_init (nw h 1) (cU h) x2 (gI (nw h 1) 1 u 1) (gI (nw h 1) 1 u 2) (gI (nw h 1) 1 u 3) (if x4 < (gI h 1 u 4) then x4 else (gI h 1 u 4))) 1 (cU h) 7 ((gI (f_UN_init (nw h 1) (cU h) x2 (gI (nw h 1) 1 u 1) (gI (nw h 1) 1 u 2) (gI (nw h 1) 1 u 3) (if x4 < (gI h 1 u 4) then x4 else (gI h 1 u 4))) 1 u 7) ||| x3)
def hp_TB_keepProduct_64 (h : ev_H) (u : Nat) (x2 : Int32) (x3 : Int32) (x4 : Int32) : ev_H := sI (sI (hp_TB_keepProduct_46 h u x2 x3 x4) 1 (cU h) 5 (gI (hp_TB_keepProduct_46 h u x2 x3 x4) 1 u 5)) 1 (cU h) 6 (gI (sI (hp_TB_keepProduct_46 h u x2 x3 x4) 1 (cU h) 5 (gI (hp_TB_keepProduct_46 h u x2 x3 x4) 1 u 5)) 1 u 6)
def f_TB_keepProduct (h : ev_H) (u : Nat) (x2 : Int32) (x3 : Int32) (x4 : Int32) : Int32 × ev_H := (((f_TB_keep (hp_TB_keepProduct_64 h u x2 x3 x4) (cU h)).1), ((f_TB_keep (hp_TB_keepProduct_64 h u x2 x3 x4) (cU h)).2))
theorem c_TB_keepProduct {E : ev_E} {P : Option ev_V ⊕ Nat → ev_H → Prop} {h : ev_H} {u : Nat} {x2 : Int32} {x3 : Int32} {x4 : Int32} (hZ : cZ h < ZM) (hR : rfs h) (n2 : ¬ (gI h 0 0 3) < 0) (n3 : (gI h 0 0 3).toNatClampNeg < 48) (k : P (.inl (some (vI (f_TB_keepProduct h u x2 x3 x4).1))) (f_TB_keepProduct h u x2 x3 x4).2) : Ev E M_TB_keepProduct 0 [(0, vR 0 0), (1, vR 1 u), (2, vI x2), (3, vI x3), (4, vI x4)] [] h P := by
  refine Ev_aload_n (pc := 0) d_TB_keepProduct_0 rfl ?_
  refine Ev_getI (pc := 1) d_TB_keepProduct_1 rfl rfl rfl fl_TB_266 ?_
  refine Ev_iload (pc := 4) d_TB_keepProduct_4 rfl ?_
  refine Ev_min (pc := 6) d_TB_keepProduct_6 lk_TB_338 w_m1 w_m2 w_m3 rfl ?_
  refine Ev_istore (pc := 9) d_TB_keepProduct_9 rfl ?_
  refine Ev_new (k := 1) (i := cU h) (pc := 11) d_TB_keepProduct_11 rfl rfl rfl nw_TB_9 hZ ?_
  refine Ev_dup (pc := 14) d_TB_keepProduct_14 rfl ?_
  refine Ev_iload_n (pc := 15) d_TB_keepProduct_15 rfl ?_
  refine Ev_aload_n (pc := 16) d_TB_keepProduct_16 rfl ?_
  refine Ev_getI (pc := 17) d_TB_keepProduct_17 rfl rfl rfl fl_TB_128 ?_
  refine Ev_aload_n (pc := 20) d_TB_keepProduct_20 rfl ?_
  refine Ev_getI (pc := 21) d_TB_keepProduct_21 rfl rfl rfl fl_TB_131 ?_
  refine Ev_aload_n (pc := 24) d_TB_keepProduct_24 rfl ?_
  refine Ev_getI (pc := 25) d_TB_keepProduct_25 rfl rfl rfl fl_TB_335 ?_
  refine Ev_iload (pc := 28) d_TB_keepProduct_28 rfl ?_
  refine Ev_callI (M' := M_UN_init) (as := [vI x2, vI (gI (nw h 1) 1 u 1), vI (gI (nw h 1) 1 u 2), vI (gI (nw h 1) 1 u 3), vI (if x4 < (gI h 1 u 4) then x4 else (gI h 1 u 4))]) (st := [vR 1 (cU h)]) (a := 1) (i := (cU h)) (pc := 30) d_TB_keepProduct_30 rfl rfl rfl rfl i_UN_init lk_TB_69 rfl rfl (c_UN_init  ?_)
  refine Ev_astore (pc := 33) d_TB_keepProduct_33 rfl ?_
  refine Ev_aload (pc := 35) d_TB_keepProduct_35 rfl ?_
  refine Ev_aload_n (pc := 37) d_TB_keepProduct_37 rfl ?_
  refine Ev_getI (pc := 38) d_TB_keepProduct_38 rfl rfl rfl fl_TB_263 ?_
  refine Ev_iload_n (pc := 41) d_TB_keepProduct_41 rfl ?_
  refine Ev_ior (pc := 42) d_TB_keepProduct_42 ?_
  refine Ev_putI (pc := 43) d_TB_keepProduct_43 rfl rfl rfl fl_TB_263 rfl ?_
  show Ev E M_TB_keepProduct 46 [(0, vR 0 0), (1, vR 1 u), (2, vI x2), (3, vI x3), (4, vI x4), (5, vI (if x4 < (gI h 1 u 4) then x4 else (gI h 1 u 4))), (6, vR 1 (cU h))] [] (hp_TB_keepProduct_46 h u x2 x3 x4) P
  refine Ev_aload (pc := 46) d_TB_keepProduct_46 rfl ?_
  refine Ev_aload_n (pc := 48) d_TB_keepProduct_48 rfl ?_
  refine Ev_getI (pc := 49) d_TB_keepProduct_49 rfl rfl rfl fl_TB_343 ?_
  refine Ev_putI (pc := 52) d_TB_keepProduct_52 rfl rfl rfl fl_TB_343 rfl ?_
  refine Ev_aload (pc := 55) d_TB_keepProduct_55 rfl ?_
  refine Ev_aload_n (pc := 57) d_TB_keepProduct_57 rfl ?_
  refine Ev_getI (pc := 58) d_TB_keepProduct_58 rfl rfl rfl fl_TB_346 ?_
  refine Ev_putI (pc := 61) d_TB_keepProduct_61 rfl rfl rfl fl_TB_346 rfl ?_
  show Ev E M_TB_keepProduct 64 [(0, vR 0 0), (1, vR 1 u), (2, vI x2), (3, vI x3), (4, vI x4), (5, vI (if x4 < (gI h 1 u 4) then x4 else (gI h 1 u 4))), (6, vR 1 (cU h))] [] (hp_TB_keepProduct_64 h u x2 x3 x4) P
  refine Ev_aload_n (pc := 64) d_TB_keepProduct_64 rfl ?_
  refine Ev_aload (pc := 65) d_TB_keepProduct_65 rfl ?_
  refine Ev_callV (M' := M_TB_keep) (as := [vR 1 (cU h)]) (st := []) (a := 0) (i := 0) (pc := 67) d_TB_keepProduct_67 rfl rfl rfl rfl rfl rfl rfl v_TB_keep lk_TB_72 rfl rfl (c_TB_keep hR n2 n3 ?_)
  refine Ev_ireturn (pc := 70) d_TB_keepProduct_70 rfl rfl ?_
  rw [f_TB_keepProduct] at k
  exact k
def hp_TB_keepPooled_38 (h : ev_H) (u : Nat) (v : Nat) : ev_H := f_UN_init (nw h 1) (cU h) 2 (gI (nw h 1) 1 u 1) (gI (nw h 1) 1 u 2) ((gI (nw h 1) 1 u 3) ||| (gI (nw h 1) 1 v 3)) (if (gI h 1 v 4) < (gI h 1 u 4) then (gI h 1 v 4) else (gI h 1 u 4))
def hp_TB_keepPooled_68 (h : ev_H) (u : Nat) (v : Nat) : ev_H := sI (sI (hp_TB_keepPooled_38 h u v) 1 (cU h) 7 ((gI (hp_TB_keepPooled_38 h u v) 1 u 7) &&& (gI (hp_TB_keepPooled_38 h u v) 1 v 7))) 1 (cU h) 5 ((gI (sI (hp_TB_keepPooled_38 h u v) 1 (cU h) 7 ((gI (hp_TB_keepPooled_38 h u v) 1 u 7) &&& (gI (hp_TB_keepPooled_38 h u v) 1 v 7))) 1 u 5) ||| (gI (sI (hp_TB_keepPooled_38 h u v) 1 (cU h) 7 ((gI (hp_TB_keepPooled_38 h u v) 1 u 7) &&& (gI (hp_TB_keepPooled_38 h u v) 1 v 7))) 1 v 5))
def f_TB_keepPooled (h : ev_H) (u : Nat) (v : Nat) : Int32 × ev_H := (((f_TB_keep (sI (hp_TB_keepPooled_68 h u v) 1 (cU h) 6 ((gI (hp_TB_keepPooled_68 h u v) 1 u 6) &&& (gI (hp_TB_keepPooled_68 h u v) 1 v 6))) (cU h)).1), ((f_TB_keep (sI (hp_TB_keepPooled_68 h u v) 1 (cU h) 6 ((gI (hp_TB_keepPooled_68 h u v) 1 u 6) &&& (gI (hp_TB_keepPooled_68 h u v) 1 v 6))) (cU h)).2))
theorem c_TB_keepPooled {E : ev_E} {P : Option ev_V ⊕ Nat → ev_H → Prop} {h : ev_H} {u : Nat} {v : Nat} (hZ : cZ h < ZM) (hR : rfs h) (n2 : ¬ (gI h 0 0 3) < 0) (n3 : (gI h 0 0 3).toNatClampNeg < 48) (k : P (.inl (some (vI (f_TB_keepPooled h u v).1))) (f_TB_keepPooled h u v).2) : Ev E M_TB_keepPooled 0 [(0, vR 0 0), (1, vR 1 u), (2, vR 1 v)] [] h P := by
  refine Ev_aload_n (pc := 0) d_TB_keepPooled_0 rfl ?_
  refine Ev_getI (pc := 1) d_TB_keepPooled_1 rfl rfl rfl fl_TB_266 ?_
  refine Ev_aload_n (pc := 4) d_TB_keepPooled_4 rfl ?_
  refine Ev_getI (pc := 5) d_TB_keepPooled_5 rfl rfl rfl fl_TB_266 ?_
  refine Ev_min (pc := 8) d_TB_keepPooled_8 lk_TB_338 w_m1 w_m2 w_m3 rfl ?_
  refine Ev_istore_n (pc := 11) d_TB_keepPooled_11 rfl ?_
  refine Ev_new (k := 1) (i := cU h) (pc := 12) d_TB_keepPooled_12 rfl rfl rfl nw_TB_9 hZ ?_
  refine Ev_dup (pc := 15) d_TB_keepPooled_15 rfl ?_
  refine Ev_iconst (v := 2) (pc := 16) d_TB_keepPooled_16 (by decide) ?_
  refine Ev_aload_n (pc := 17) d_TB_keepPooled_17 rfl ?_
  refine Ev_getI (pc := 18) d_TB_keepPooled_18 rfl rfl rfl fl_TB_128 ?_
  refine Ev_aload_n (pc := 21) d_TB_keepPooled_21 rfl ?_
  refine Ev_getI (pc := 22) d_TB_keepPooled_22 rfl rfl rfl fl_TB_131 ?_
  refine Ev_aload_n (pc := 25) d_TB_keepPooled_25 rfl ?_
  refine Ev_getI (pc := 26) d_TB_keepPooled_26 rfl rfl rfl fl_TB_335 ?_
  refine Ev_aload_n (pc := 29) d_TB_keepPooled_29 rfl ?_
  refine Ev_getI (pc := 30) d_TB_keepPooled_30 rfl rfl rfl fl_TB_335 ?_
  refine Ev_ior (pc := 33) d_TB_keepPooled_33 ?_
  refine Ev_iload_n (pc := 34) d_TB_keepPooled_34 rfl ?_
  refine Ev_callI (M' := M_UN_init) (as := [vI 2, vI (gI (nw h 1) 1 u 1), vI (gI (nw h 1) 1 u 2), vI ((gI (nw h 1) 1 u 3) ||| (gI (nw h 1) 1 v 3)), vI (if (gI h 1 v 4) < (gI h 1 u 4) then (gI h 1 v 4) else (gI h 1 u 4))]) (st := [vR 1 (cU h)]) (a := 1) (i := (cU h)) (pc := 35) d_TB_keepPooled_35 rfl rfl rfl rfl i_UN_init lk_TB_69 rfl rfl (c_UN_init  ?_)
  show Ev E M_TB_keepPooled 38 [(0, vR 0 0), (1, vR 1 u), (2, vR 1 v), (3, vI (if (gI h 1 v 4) < (gI h 1 u 4) then (gI h 1 v 4) else (gI h 1 u 4)))] [vR 1 (cU h)] (hp_TB_keepPooled_38 h u v) P
  refine Ev_astore (pc := 38) d_TB_keepPooled_38 rfl ?_
  refine Ev_aload (pc := 40) d_TB_keepPooled_40 rfl ?_
  refine Ev_aload_n (pc := 42) d_TB_keepPooled_42 rfl ?_
  refine Ev_getI (pc := 43) d_TB_keepPooled_43 rfl rfl rfl fl_TB_263 ?_
  refine Ev_aload_n (pc := 46) d_TB_keepPooled_46 rfl ?_
  refine Ev_getI (pc := 47) d_TB_keepPooled_47 rfl rfl rfl fl_TB_263 ?_
  refine Ev_iand (pc := 50) d_TB_keepPooled_50 ?_
  refine Ev_putI (pc := 51) d_TB_keepPooled_51 rfl rfl rfl fl_TB_263 rfl ?_
  refine Ev_aload (pc := 54) d_TB_keepPooled_54 rfl ?_
  refine Ev_aload_n (pc := 56) d_TB_keepPooled_56 rfl ?_
  refine Ev_getI (pc := 57) d_TB_keepPooled_57 rfl rfl rfl fl_TB_343 ?_
  refine Ev_aload_n (pc := 60) d_TB_keepPooled_60 rfl ?_
  refine Ev_getI (pc := 61) d_TB_keepPooled_61 rfl rfl rfl fl_TB_343 ?_
  refine Ev_ior (pc := 64) d_TB_keepPooled_64 ?_
  refine Ev_putI (pc := 65) d_TB_keepPooled_65 rfl rfl rfl fl_TB_343 rfl ?_
  show Ev E M_TB_keepPooled 68 [(0, vR 0 0), (1, vR 1 u), (2, vR 1 v), (3, vI (if (gI h 1 v 4) < (gI h 1 u 4) then (gI h 1 v 4) else (gI h 1 u 4))), (4, vR 1 (cU h))] [] (hp_TB_keepPooled_68 h u v) P
  refine Ev_aload (pc := 68) d_TB_keepPooled_68 rfl ?_
  refine Ev_aload_n (pc := 70) d_TB_keepPooled_70 rfl ?_
  refine Ev_getI (pc := 71) d_TB_keepPooled_71 rfl rfl rfl fl_TB_346 ?_
  refine Ev_aload_n (pc := 74) d_TB_keepPooled_74 rfl ?_
  refine Ev_getI (pc := 75) d_TB_keepPooled_75 rfl rfl rfl fl_TB_346 ?_
  refine Ev_iand (pc := 78) d_TB_keepPooled_78 ?_
  refine Ev_putI (pc := 79) d_TB_keepPooled_79 rfl rfl rfl fl_TB_346 rfl ?_
  refine Ev_aload_n (pc := 82) d_TB_keepPooled_82 rfl ?_
  refine Ev_aload (pc := 83) d_TB_keepPooled_83 rfl ?_
  refine Ev_callV (M' := M_TB_keep) (as := [vR 1 (cU h)]) (st := []) (a := 0) (i := 0) (pc := 85) d_TB_keepPooled_85 rfl rfl rfl rfl rfl rfl rfl v_TB_keep lk_TB_72 rfl rfl (c_TB_keep hR n2 n3 ?_)
  refine Ev_ireturn (pc := 88) d_TB_keepPooled_88 rfl rfl ?_
  rw [f_TB_keepPooled] at k
  exact k
def hp_TB_keepSplitProducts_41 (h : ev_H) (u : Nat) : ev_H := (f_TB_keepProduct ((f_TB_keepProduct ((f_TB_keepProduct h u 0 0 (gI h 1 u 4)).2) u 1 0 (gI ((f_TB_keepProduct h u 0 0 (gI h 1 u 4)).2) 1 u 4)).2) u 2 0 ((gI ((f_TB_keepProduct ((f_TB_keepProduct h u 0 0 (gI h 1 u 4)).2) u 1 0 (gI ((f_TB_keepProduct h u 0 0 (gI h 1 u 4)).2) 1 u 4)).2) 0 0 5) + (tab 2 0))).2
def f_TB_keepSplitProducts (h : ev_H) (u : Nat) : Int32 × ev_H := (((f_TB_keepProduct h u 0 0 (gI h 1 u 4)).1), (hp_TB_keepSplitProducts_41 h u))
theorem c_TB_keepSplitProducts {E : ev_E} {P : Option ev_V ⊕ Nat → ev_H → Prop} {h : ev_H} {u : Nat} (hZ : cZ h < ZM) (hR : rfs h) (n2 : ¬ (gI h 0 0 3) < 0) (n3 : (gI h 0 0 3).toNatClampNeg < 48) (n4 : cZ ((f_TB_keepProduct h u 0 0 (gI h 1 u 4)).2) < ZM) (n5 : ¬ (gI ((f_TB_keepProduct h u 0 0 (gI h 1 u 4)).2) 0 0 3) < 0) (n6 : (gI ((f_TB_keepProduct h u 0 0 (gI h 1 u 4)).2) 0 0 3).toNatClampNeg < 48) (n7 : cZ ((f_TB_keepProduct ((f_TB_keepProduct h u 0 0 (gI h 1 u 4)).2) u 1 0 (gI ((f_TB_keepProduct h u 0 0 (gI h 1 u 4)).2) 1 u 4)).2) < ZM) (n8 : ¬ (gI ((f_TB_keepProduct ((f_TB_keepProduct h u 0 0 (gI h 1 u 4)).2) u 1 0 (gI ((f_TB_keepProduct h u 0 0 (gI h 1 u 4)).2) 1 u 4)).2) 0 0 3) < 0) (n9 : (gI ((f_TB_keepProduct ((f_TB_keepProduct h u 0 0 (gI h 1 u 4)).2) u 1 0 (gI ((f_TB_keepProduct h u 0 0 (gI h 1 u 4)).2) 1 u 4)).2) 0 0 3).toNatClampNeg < 48) (k : P (.inl (some (vI (f_TB_keepSplitProducts h u).1))) (f_TB_keepSplitProducts h u).2) : Ev E M_TB_keepSplitProducts 0 [(0, vR 0 0), (1, vR 1 u)] [] h P := by
  refine Ev_aload_n (pc := 0) d_TB_keepSplitProducts_0 rfl ?_
  refine Ev_aload_n (pc := 1) d_TB_keepSplitProducts_1 rfl ?_
  refine Ev_iconst (v := 0) (pc := 2) d_TB_keepSplitProducts_2 (by decide) ?_
  refine Ev_iconst (v := 0) (pc := 3) d_TB_keepSplitProducts_3 (by decide) ?_
  refine Ev_aload_n (pc := 4) d_TB_keepSplitProducts_4 rfl ?_
  refine Ev_getI (pc := 5) d_TB_keepSplitProducts_5 rfl rfl rfl fl_TB_266 ?_
  refine Ev_callV (M' := M_TB_keepProduct) (as := [vR 1 u, vI 0, vI 0, vI (gI h 1 u 4)]) (st := []) (a := 0) (i := 0) (pc := 8) d_TB_keepSplitProducts_8 rfl rfl rfl rfl rfl rfl rfl v_TB_keepProduct lk_TB_120 rfl rfl (c_TB_keepProduct hZ hR n2 n3 ?_)
  refine Ev_istore_n (pc := 11) d_TB_keepSplitProducts_11 rfl ?_
  refine Ev_aload_n (pc := 12) d_TB_keepSplitProducts_12 rfl ?_
  refine Ev_aload_n (pc := 13) d_TB_keepSplitProducts_13 rfl ?_
  refine Ev_iconst (v := 1) (pc := 14) d_TB_keepSplitProducts_14 (by decide) ?_
  refine Ev_iconst (v := 0) (pc := 15) d_TB_keepSplitProducts_15 (by decide) ?_
  refine Ev_aload_n (pc := 16) d_TB_keepSplitProducts_16 rfl ?_
  refine Ev_getI (pc := 17) d_TB_keepSplitProducts_17 rfl rfl rfl fl_TB_266 ?_
  refine Ev_callV (M' := M_TB_keepProduct) (as := [vR 1 u, vI 1, vI 0, vI (gI ((f_TB_keepProduct h u 0 0 (gI h 1 u 4)).2) 1 u 4)]) (st := []) (a := 0) (i := 0) (pc := 20) d_TB_keepSplitProducts_20 rfl rfl rfl rfl rfl rfl rfl v_TB_keepProduct lk_TB_120 rfl rfl (c_TB_keepProduct n4 hR n5 n6 ?_)
  refine Ev_pop (pc := 23) d_TB_keepSplitProducts_23 rfl ?_
  refine Ev_aload_n (pc := 24) d_TB_keepSplitProducts_24 rfl ?_
  refine Ev_aload_n (pc := 25) d_TB_keepSplitProducts_25 rfl ?_
  refine Ev_iconst (v := 2) (pc := 26) d_TB_keepSplitProducts_26 (by decide) ?_
  refine Ev_iconst (v := 0) (pc := 27) d_TB_keepSplitProducts_27 (by decide) ?_
  refine Ev_aload_n (pc := 28) d_TB_keepSplitProducts_28 rfl ?_
  refine Ev_getI (pc := 29) d_TB_keepSplitProducts_29 rfl rfl rfl fl_TB_38 ?_
  refine Ev_gets (i := 1) (pc := 32) d_TB_keepSplitProducts_32 rfl fs_TB_117 ?_
  refine Ev_iconst (v := 0) (pc := 35) d_TB_keepSplitProducts_35 (by decide) ?_
  refine Ev_tab (pc := 36) d_TB_keepSplitProducts_36 (Or.inr rfl) (by decide) (by decide) ?_
  refine Ev_iadd (pc := 37) d_TB_keepSplitProducts_37 ?_
  refine Ev_callV (M' := M_TB_keepProduct) (as := [vR 1 u, vI 2, vI 0, vI ((gI ((f_TB_keepProduct ((f_TB_keepProduct h u 0 0 (gI h 1 u 4)).2) u 1 0 (gI ((f_TB_keepProduct h u 0 0 (gI h 1 u 4)).2) 1 u 4)).2) 0 0 5) + (tab 2 0))]) (st := []) (a := 0) (i := 0) (pc := 38) d_TB_keepSplitProducts_38 rfl rfl rfl rfl rfl rfl rfl v_TB_keepProduct lk_TB_120 rfl rfl (c_TB_keepProduct n7 hR n8 n9 ?_)
  show Ev E M_TB_keepSplitProducts 41 [(0, vR 0 0), (1, vR 1 u), (2, vI ((f_TB_keepProduct h u 0 0 (gI h 1 u 4)).1))] [vI ((f_TB_keepProduct ((f_TB_keepProduct ((f_TB_keepProduct h u 0 0 (gI h 1 u 4)).2) u 1 0 (gI ((f_TB_keepProduct h u 0 0 (gI h 1 u 4)).2) 1 u 4)).2) u 2 0 ((gI ((f_TB_keepProduct ((f_TB_keepProduct h u 0 0 (gI h 1 u 4)).2) u 1 0 (gI ((f_TB_keepProduct h u 0 0 (gI h 1 u 4)).2) 1 u 4)).2) 0 0 5) + (tab 2 0))).1)] (hp_TB_keepSplitProducts_41 h u) P
  refine Ev_pop (pc := 41) d_TB_keepSplitProducts_41 rfl ?_
  refine Ev_iload_n (pc := 42) d_TB_keepSplitProducts_42 rfl ?_
  refine Ev_ireturn (pc := 43) d_TB_keepSplitProducts_43 rfl rfl ?_
  rw [f_TB_keepSplitProducts] at k
  exact k
def f_TB_unit (h : ev_H) (x1 : Int32) (x2 : Int32) (x3 : Int32) (x4 : Int32) (x5 : Int32) : (Option ev_V ⊕ Nat) × ev_H := (if (f_TB_isBelow x1 16) = 0 then (.inr 0, nx h) else (if (f_TB_isBelow x2 4) = 0 then (.inr 0, nx h) else (if (f_TB_isBloodType x3 x4) = 0 then (.inr 0, nx h) else (if x5 < 1 then (.inr 0, nx h) else (if x5 ≤ 60000 then (if (f_TB_hasRoomFor h 1) = 0 then (.inr 1, nx h) else (.inl (some (vI ((f_TB_keep (f_UN_init (nw h 1) (cU h) x2 x3 x4 (1 <<< (x1 &&& 31)) ((gI (nw h 1) 0 0 5) + x5)) (cU h)).1))), (f_TB_keep (f_UN_init (nw h 1) (cU h) x2 x3 x4 (1 <<< (x1 &&& 31)) ((gI (nw h 1) 0 0 5) + x5)) (cU h)).2)) else (.inr 0, nx h))))))
theorem c_TB_unit {E : ev_E} {P : Option ev_V ⊕ Nat → ev_H → Prop} {h : ev_H} {x1 : Int32} {x2 : Int32} {x3 : Int32} {x4 : Int32} {x5 : Int32} (hZ : cZ h < ZM) (hR : rfs h) (n2 : ¬ (gI h 0 0 3) < 0) (n3 : (¬ ((f_TB_isBelow x1 16) = 0)) → (¬ ((f_TB_isBelow x2 4) = 0)) → (¬ ((f_TB_isBloodType x3 x4) = 0)) → (¬ (x5 < 1)) → (x5 ≤ 60000) → (¬ ((f_TB_hasRoomFor h 1) = 0)) → (gI h 0 0 3).toNatClampNeg < 48) (k : P (f_TB_unit h x1 x2 x3 x4 x5).1 (f_TB_unit h x1 x2 x3 x4 x5).2) : Ev E M_TB_unit 0 [(0, vR 0 0), (1, vI x1), (2, vI x2), (3, vI x3), (4, vI x4), (5, vI x5)] [] h P := by
  refine Ev_iload_n (pc := 0) d_TB_unit_0 rfl ?_
  refine Ev_bipush (v := 16) (pc := 1) d_TB_unit_1 (by decide) ?_
  refine Ev_callS (M' := M_TB_isBelow) (as := [vI x1, vI 16]) (st := []) (pc := 3) d_TB_unit_3 rfl rfl rfl s_TB_isBelow lk_TB_48 rfl rfl (c_TB_isBelow  ?_)
  refine Ev_if_eq (tgt := 26) (pc := 6) d_TB_unit_6 rfl (fun q1 => ?_) (fun q1 => ?_)
  · refine Ev_throw (pc := 26) d_TB_unit_26 d_TB_unit_29 d_TB_unit_30 d_TB_unit_32 d_TB_unit_35 rfl rfl th_TB_31_55_35 rfl hZ ?_
    rw [f_TB_unit, if_pos q1] at k
    exact k
  · refine Ev_iload_n (pc := 9) d_TB_unit_9 rfl ?_
    refine Ev_iconst (v := 4) (pc := 10) d_TB_unit_10 (by decide) ?_
    refine Ev_callS (M' := M_TB_isBelow) (as := [vI x2, vI 4]) (st := []) (pc := 11) d_TB_unit_11 rfl rfl rfl s_TB_isBelow lk_TB_48 rfl rfl (c_TB_isBelow  ?_)
    refine Ev_if_eq (tgt := 26) (pc := 14) d_TB_unit_14 rfl (fun q2 => ?_) (fun q2 => ?_)
    · refine Ev_throw (pc := 26) d_TB_unit_26 d_TB_unit_29 d_TB_unit_30 d_TB_unit_32 d_TB_unit_35 rfl rfl th_TB_31_55_35 rfl hZ ?_
      rw [f_TB_unit, if_neg q1, if_pos q2] at k
      exact k
    · refine Ev_iload_n (pc := 17) d_TB_unit_17 rfl ?_
      refine Ev_iload (pc := 18) d_TB_unit_18 rfl ?_
      refine Ev_callS (M' := M_TB_isBloodType) (as := [vI x3, vI x4]) (st := []) (pc := 20) d_TB_unit_20 rfl rfl rfl s_TB_isBloodType lk_TB_52 rfl rfl (c_TB_isBloodType  ?_)
      refine Ev_if_ne (tgt := 36) (pc := 23) d_TB_unit_23 rfl (fun q3 => ?_) (fun q3 => ?_)
      · refine Ev_iload (pc := 36) d_TB_unit_36 rfl ?_
        refine Ev_iconst (v := 1) (pc := 38) d_TB_unit_38 (by decide) ?_
        refine Ev_icmp_lt (tgt := 49) (pc := 39) d_TB_unit_39 rfl (fun q4 => ?_) (fun q4 => ?_)
        · refine Ev_throw (pc := 49) d_TB_unit_49 d_TB_unit_52 d_TB_unit_53 d_TB_unit_55 d_TB_unit_58 rfl rfl th_TB_31_58_35 rfl hZ ?_
          rw [f_TB_unit, if_neg q1, if_neg q2, if_neg q3, if_pos q4] at k
          exact k
        · refine Ev_iload (pc := 42) d_TB_unit_42 rfl ?_
          refine Ev_ldc (pc := 44) d_TB_unit_44 w_con_TB_57 ?_
          refine Ev_icmp_le (tgt := 59) (pc := 46) d_TB_unit_46 rfl (fun q5 => ?_) (fun q5 => ?_)
          · refine Ev_aload_n (pc := 59) d_TB_unit_59 rfl ?_
            refine Ev_iconst (v := 1) (pc := 60) d_TB_unit_60 (by decide) ?_
            refine Ev_callV (M' := M_TB_hasRoomFor) (as := [vI 1]) (st := []) (a := 0) (i := 0) (pc := 61) d_TB_unit_61 rfl rfl rfl rfl rfl rfl rfl v_TB_hasRoomFor lk_TB_60 rfl rfl (c_TB_hasRoomFor  ?_)
            refine Ev_if_ne (tgt := 77) (pc := 64) d_TB_unit_64 rfl (fun q6 => ?_) (fun q6 => ?_)
            · refine Ev_aload_n (pc := 77) d_TB_unit_77 rfl ?_
              refine Ev_new (k := 1) (i := cU h) (pc := 78) d_TB_unit_78 rfl rfl rfl nw_TB_9 hZ ?_
              refine Ev_dup (pc := 81) d_TB_unit_81 rfl ?_
              refine Ev_iload_n (pc := 82) d_TB_unit_82 rfl ?_
              refine Ev_iload_n (pc := 83) d_TB_unit_83 rfl ?_
              refine Ev_iload (pc := 84) d_TB_unit_84 rfl ?_
              refine Ev_iconst (v := 1) (pc := 86) d_TB_unit_86 (by decide) ?_
              refine Ev_iload_n (pc := 87) d_TB_unit_87 rfl ?_
              refine Ev_ishl (pc := 88) d_TB_unit_88 ?_
              refine Ev_aload_n (pc := 89) d_TB_unit_89 rfl ?_
              refine Ev_getI (pc := 90) d_TB_unit_90 rfl rfl rfl fl_TB_38 ?_
              refine Ev_iload (pc := 93) d_TB_unit_93 rfl ?_
              refine Ev_iadd (pc := 95) d_TB_unit_95 ?_
              refine Ev_callI (M' := M_UN_init) (as := [vI x2, vI x3, vI x4, vI (1 <<< (x1 &&& 31)), vI ((gI (nw h 1) 0 0 5) + x5)]) (st := [vR 1 (cU h), vR 0 0]) (a := 1) (i := (cU h)) (pc := 96) d_TB_unit_96 rfl rfl rfl rfl i_UN_init lk_TB_69 rfl rfl (c_UN_init  ?_)
              refine Ev_callV (M' := M_TB_keep) (as := [vR 1 (cU h)]) (st := []) (a := 0) (i := 0) (pc := 99) d_TB_unit_99 rfl rfl rfl rfl rfl rfl rfl v_TB_keep lk_TB_72 rfl rfl (c_TB_keep hR n2 (n3 q1 q2 q3 q4 q5 q6) ?_)
              refine Ev_ireturn (pc := 102) d_TB_unit_102 rfl rfl ?_
              rw [f_TB_unit, if_neg q1, if_neg q2, if_neg q3, if_neg q4, if_pos q5, if_neg q6] at k
              exact k
            · refine Ev_throw (pc := 67) d_TB_unit_67 d_TB_unit_70 d_TB_unit_71 d_TB_unit_73 d_TB_unit_76 rfl rfl th_TB_64_66_68 rfl hZ ?_
              rw [f_TB_unit, if_neg q1, if_neg q2, if_neg q3, if_neg q4, if_pos q5, if_pos q6] at k
              exact k
          · refine Ev_throw (pc := 49) d_TB_unit_49 d_TB_unit_52 d_TB_unit_53 d_TB_unit_55 d_TB_unit_58 rfl rfl th_TB_31_58_35 rfl hZ ?_
            rw [f_TB_unit, if_neg q1, if_neg q2, if_neg q3, if_neg q4, if_neg q5] at k
            exact k
      · refine Ev_throw (pc := 26) d_TB_unit_26 d_TB_unit_29 d_TB_unit_30 d_TB_unit_32 d_TB_unit_35 rfl rfl th_TB_31_55_35 rfl hZ ?_
        rw [f_TB_unit, if_neg q1, if_neg q2, if_pos q3] at k
        exact k
def m_TB_process_42 (x1 : Int32) (x2 : Int32) : Int32 := (if x2 = 0 then 3 else 1)
def hp_TB_process_118 (h : ev_H) (x1 : Int32) (x2 : Int32) : ev_H := (f_TB_keepProduct (sI h 1 x1.toNatClampNeg 8 5) x1.toNatClampNeg (gI (sI h 1 x1.toNatClampNeg 8 5) 1 x1.toNatClampNeg 0) (tab 1 x2.toNatClampNeg) ((gI (sI h 1 x1.toNatClampNeg 8 5) 0 0 5) + (tab 2 x2.toNatClampNeg))).2
def f_TB_process_42 (h : ev_H) (x1 : Int32) (x2 : Int32) : (Option ev_V ⊕ Nat) × ev_H := (if (f_TB_hasRoomFor h (m_TB_process_42 x1 x2)) = 0 then (.inr 1, nx h) else (if (f_TB_suits x2 (gI h 1 x1.toNatClampNeg 0)) = 0 then (.inr 3, nx h) else (if x2 = 0 then (.inl (some (vI ((f_TB_keepSplitProducts (sI h 1 x1.toNatClampNeg 8 5) x1.toNatClampNeg).1))), (f_TB_keepSplitProducts (sI h 1 x1.toNatClampNeg 8 5) x1.toNatClampNeg).2) else (.inl (some (vI ((f_TB_keepProduct (sI h 1 x1.toNatClampNeg 8 5) x1.toNatClampNeg (gI (sI h 1 x1.toNatClampNeg 8 5) 1 x1.toNatClampNeg 0) (tab 1 x2.toNatClampNeg) ((gI (sI h 1 x1.toNatClampNeg 8 5) 0 0 5) + (tab 2 x2.toNatClampNeg))).1))), hp_TB_process_118 h x1 x2))))
theorem c_TB_process_42 {E : ev_E} {P : Option ev_V ⊕ Nat → ev_H → Prop} {h : ev_H} {x1 : Int32} {x2 : Int32} (q2 : ¬ ((f_TB_isBelow x2 4) = 0)) (n3 : cZ (sI h 1 x1.toNatClampNeg 8 5) < ZM) (hR : rfs h) (n5 : ¬ (gI h 0 0 3) < 0) (n6 : (¬ ((f_TB_hasRoomFor h (m_TB_process_42 x1 x2)) = 0)) → (¬ ((f_TB_suits x2 (gI h 1 x1.toNatClampNeg 0)) = 0)) → (¬ (x2 = 0)) → (gI h 0 0 3).toNatClampNeg < 48) (n7 : (¬ ((f_TB_hasRoomFor h (m_TB_process_42 x1 x2)) = 0)) → (¬ ((f_TB_suits x2 (gI h 1 x1.toNatClampNeg 0)) = 0)) → (x2 = 0) → (gI h 0 0 3).toNatClampNeg < 48) (n8 : cZ ((f_TB_keepProduct (sI h 1 x1.toNatClampNeg 8 5) x1.toNatClampNeg 0 0 (gI (sI h 1 x1.toNatClampNeg 8 5) 1 x1.toNatClampNeg 4)).2) < ZM) (n9 : ¬ (gI ((f_TB_keepProduct (sI h 1 x1.toNatClampNeg 8 5) x1.toNatClampNeg 0 0 (gI (sI h 1 x1.toNatClampNeg 8 5) 1 x1.toNatClampNeg 4)).2) 0 0 3) < 0) (n10 : (¬ ((f_TB_hasRoomFor h (m_TB_process_42 x1 x2)) = 0)) → (¬ ((f_TB_suits x2 (gI h 1 x1.toNatClampNeg 0)) = 0)) → (x2 = 0) → (gI ((f_TB_keepProduct (sI h 1 x1.toNatClampNeg 8 5) x1.toNatClampNeg 0 0 (gI (sI h 1 x1.toNatClampNeg 8 5) 1 x1.toNatClampNeg 4)).2) 0 0 3).toNatClampNeg < 48) (n11 : cZ ((f_TB_keepProduct ((f_TB_keepProduct (sI h 1 x1.toNatClampNeg 8 5) x1.toNatClampNeg 0 0 (gI (sI h 1 x1.toNatClampNeg 8 5) 1 x1.toNatClampNeg 4)).2) x1.toNatClampNeg 1 0 (gI ((f_TB_keepProduct (sI h 1 x1.toNatClampNeg 8 5) x1.toNatClampNeg 0 0 (gI (sI h 1 x1.toNatClampNeg 8 5) 1 x1.toNatClampNeg 4)).2) 1 x1.toNatClampNeg 4)).2) < ZM) (n12 : ¬ (gI ((f_TB_keepProduct ((f_TB_keepProduct (sI h 1 x1.toNatClampNeg 8 5) x1.toNatClampNeg 0 0 (gI (sI h 1 x1.toNatClampNeg 8 5) 1 x1.toNatClampNeg 4)).2) x1.toNatClampNeg 1 0 (gI ((f_TB_keepProduct (sI h 1 x1.toNatClampNeg 8 5) x1.toNatClampNeg 0 0 (gI (sI h 1 x1.toNatClampNeg 8 5) 1 x1.toNatClampNeg 4)).2) 1 x1.toNatClampNeg 4)).2) 0 0 3) < 0) (n13 : (¬ ((f_TB_hasRoomFor h (m_TB_process_42 x1 x2)) = 0)) → (¬ ((f_TB_suits x2 (gI h 1 x1.toNatClampNeg 0)) = 0)) → (x2 = 0) → (gI ((f_TB_keepProduct ((f_TB_keepProduct (sI h 1 x1.toNatClampNeg 8 5) x1.toNatClampNeg 0 0 (gI (sI h 1 x1.toNatClampNeg 8 5) 1 x1.toNatClampNeg 4)).2) x1.toNatClampNeg 1 0 (gI ((f_TB_keepProduct (sI h 1 x1.toNatClampNeg 8 5) x1.toNatClampNeg 0 0 (gI (sI h 1 x1.toNatClampNeg 8 5) 1 x1.toNatClampNeg 4)).2) 1 x1.toNatClampNeg 4)).2) 0 0 3).toNatClampNeg < 48) (hZ : cZ h < ZM) (k : P (f_TB_process_42 h x1 x2).1 (f_TB_process_42 h x1 x2).2) : Ev E M_TB_process 42 [(0, vR 0 0), (1, vI x1), (2, vI x2), (3, vR 1 x1.toNatClampNeg)] [vI (m_TB_process_42 x1 x2), vR 0 0] h P := by
  refine Ev_callV (M' := M_TB_hasRoomFor) (as := [vI (m_TB_process_42 x1 x2)]) (st := []) (a := 0) (i := 0) (pc := 42) d_TB_process_42 rfl rfl rfl rfl rfl rfl rfl v_TB_hasRoomFor lk_TB_60 rfl rfl (c_TB_hasRoomFor  ?_)
  refine Ev_if_ne (tgt := 58) (pc := 45) d_TB_process_45 rfl (fun q5 => ?_) (fun q5 => ?_)
  · refine Ev_iload_n (pc := 58) d_TB_process_58 rfl ?_
    refine Ev_aload_n (pc := 59) d_TB_process_59 rfl ?_
    refine Ev_getI (pc := 60) d_TB_process_60 rfl rfl rfl fl_TB_99 ?_
    refine Ev_callS (M' := M_TB_suits) (as := [vI x2, vI (gI h 1 x1.toNatClampNeg 0)]) (st := []) (pc := 63) d_TB_process_63 rfl rfl rfl s_TB_suits lk_TB_102 rfl rfl (c_TB_suits  ?_)
    refine Ev_if_ne (tgt := 79) (pc := 66) d_TB_process_66 rfl (fun q6 => ?_) (fun q6 => ?_)
    · refine Ev_aload_n (pc := 79) d_TB_process_79 rfl ?_
      refine Ev_iconst (v := 5) (pc := 80) d_TB_process_80 (by decide) ?_
      refine Ev_putI (pc := 81) d_TB_process_81 rfl rfl rfl fl_TB_82 rfl ?_
      refine Ev_iload_n (pc := 84) d_TB_process_84 rfl ?_
      refine Ev_if_ne (tgt := 94) (pc := 85) d_TB_process_85 rfl (fun q7 => ?_) (fun q7 => ?_)
      · refine Ev_aload_n (pc := 94) d_TB_process_94 rfl ?_
        refine Ev_aload_n (pc := 95) d_TB_process_95 rfl ?_
        refine Ev_aload_n (pc := 96) d_TB_process_96 rfl ?_
        refine Ev_getI (pc := 97) d_TB_process_97 rfl rfl rfl fl_TB_99 ?_
        refine Ev_gets (i := 0) (pc := 100) d_TB_process_100 rfl fs_TB_113 ?_
        refine Ev_iload_n (pc := 103) d_TB_process_103 rfl ?_
        refine Ev_tab (pc := 104) d_TB_process_104 (Or.inl rfl) (isB_0 q2) (isB_1 q2 (by decide)) ?_
        refine Ev_aload_n (pc := 105) d_TB_process_105 rfl ?_
        refine Ev_getI (pc := 106) d_TB_process_106 rfl rfl rfl fl_TB_38 ?_
        refine Ev_gets (i := 1) (pc := 109) d_TB_process_109 rfl fs_TB_117 ?_
        refine Ev_iload_n (pc := 112) d_TB_process_112 rfl ?_
        refine Ev_tab (pc := 113) d_TB_process_113 (Or.inr rfl) (isB_0 q2) (isB_1 q2 (by decide)) ?_
        refine Ev_iadd (pc := 114) d_TB_process_114 ?_
        refine Ev_callV (M' := M_TB_keepProduct) (as := [vR 1 x1.toNatClampNeg, vI (gI (sI h 1 x1.toNatClampNeg 8 5) 1 x1.toNatClampNeg 0), vI (tab 1 x2.toNatClampNeg), vI ((gI (sI h 1 x1.toNatClampNeg 8 5) 0 0 5) + (tab 2 x2.toNatClampNeg))]) (st := []) (a := 0) (i := 0) (pc := 115) d_TB_process_115 rfl rfl rfl rfl rfl rfl rfl v_TB_keepProduct lk_TB_120 rfl rfl (c_TB_keepProduct n3 hR n5 (n6 q5 q6 q7) ?_)
        show Ev E M_TB_process 118 [(0, vR 0 0), (1, vI x1), (2, vI x2), (3, vR 1 x1.toNatClampNeg)] [vI ((f_TB_keepProduct (sI h 1 x1.toNatClampNeg 8 5) x1.toNatClampNeg (gI (sI h 1 x1.toNatClampNeg 8 5) 1 x1.toNatClampNeg 0) (tab 1 x2.toNatClampNeg) ((gI (sI h 1 x1.toNatClampNeg 8 5) 0 0 5) + (tab 2 x2.toNatClampNeg))).1)] (hp_TB_process_118 h x1 x2) P
        refine Ev_ireturn (pc := 118) d_TB_process_118 rfl rfl ?_
        rw [f_TB_process_42, if_neg q5, if_neg q6, if_neg q7] at k
        exact k
      · refine Ev_aload_n (pc := 88) d_TB_process_88 rfl ?_
        refine Ev_aload_n (pc := 89) d_TB_process_89 rfl ?_
        refine Ev_callV (M' := M_TB_keepSplitProducts) (as := [vR 1 x1.toNatClampNeg]) (st := []) (a := 0) (i := 0) (pc := 90) d_TB_process_90 rfl rfl rfl rfl rfl rfl rfl v_TB_keepSplitProducts lk_TB_110 rfl rfl (c_TB_keepSplitProducts n3 hR n5 (n7 q5 q6 q7) n8 n9 (n10 q5 q6 q7) n11 n12 (n13 q5 q6 q7) ?_)
        refine Ev_ireturn (pc := 93) d_TB_process_93 rfl rfl ?_
        rw [f_TB_process_42, if_neg q5, if_neg q6, if_pos q7] at k
        exact k
    · refine Ev_throw (pc := 69) d_TB_process_69 d_TB_process_72 d_TB_process_73 d_TB_process_75 d_TB_process_78 rfl rfl th_TB_105_107_109 rfl hZ ?_
      rw [f_TB_process_42, if_neg q5, if_pos q6] at k
      exact k
  · refine Ev_throw (pc := 48) d_TB_process_48 d_TB_process_51 d_TB_process_52 d_TB_process_54 d_TB_process_57 rfl rfl th_TB_64_97_68 rfl hZ ?_
    rw [f_TB_process_42, if_pos q5] at k
    exact k
def f_TB_process (h : ev_H) (x1 : Int32) (x2 : Int32) : (Option ev_V ⊕ Nat) × ev_H := (if (f_TB_isBelow x1 (gI h 0 0 3)) = 0 then (.inr 2, nx h) else (if (f_TB_isBelow x2 4) = 0 then (.inr 0, nx h) else (if (f_TB_isReady h x1.toNatClampNeg) = 0 then (.inr 1, nx h) else f_TB_process_42 h x1 x2)))
theorem c_TB_process {E : ev_E} {P : Option ev_V ⊕ Nat → ev_H → Prop} {h : ev_H} {x1 : Int32} {x2 : Int32} (hU : uok h) (hR : rfs h) (hZ : cZ h < ZM) (n3 : cZ (sI h 1 x1.toNatClampNeg 8 5) < ZM) (n4 : ¬ (gI h 0 0 3) < 0) (n5 : (¬ ((f_TB_isBelow x1 (gI h 0 0 3)) = 0)) → (¬ ((f_TB_isBelow x2 4) = 0)) → (¬ ((f_TB_isReady h x1.toNatClampNeg) = 0)) → ((¬ ((f_TB_hasRoomFor h (m_TB_process_42 x1 x2)) = 0)) → (¬ ((f_TB_suits x2 (gI h 1 x1.toNatClampNeg 0)) = 0)) → (¬ (x2 = 0)) → (gI h 0 0 3).toNatClampNeg < 48)) (n6 : (¬ ((f_TB_isBelow x1 (gI h 0 0 3)) = 0)) → (¬ ((f_TB_isBelow x2 4) = 0)) → (¬ ((f_TB_isReady h x1.toNatClampNeg) = 0)) → ((¬ ((f_TB_hasRoomFor h (m_TB_process_42 x1 x2)) = 0)) → (¬ ((f_TB_suits x2 (gI h 1 x1.toNatClampNeg 0)) = 0)) → (x2 = 0) → (gI h 0 0 3).toNatClampNeg < 48)) (n7 : cZ ((f_TB_keepProduct (sI h 1 x1.toNatClampNeg 8 5) x1.toNatClampNeg 0 0 (gI (sI h 1 x1.toNatClampNeg 8 5) 1 x1.toNatClampNeg 4)).2) < ZM) (n8 : ¬ (gI ((f_TB_keepProduct (sI h 1 x1.toNatClampNeg 8 5) x1.toNatClampNeg 0 0 (gI (sI h 1 x1.toNatClampNeg 8 5) 1 x1.toNatClampNeg 4)).2) 0 0 3) < 0) (n9 : (¬ ((f_TB_isBelow x1 (gI h 0 0 3)) = 0)) → (¬ ((f_TB_isBelow x2 4) = 0)) → (¬ ((f_TB_isReady h x1.toNatClampNeg) = 0)) → ((¬ ((f_TB_hasRoomFor h (m_TB_process_42 x1 x2)) = 0)) → (¬ ((f_TB_suits x2 (gI h 1 x1.toNatClampNeg 0)) = 0)) → (x2 = 0) → (gI ((f_TB_keepProduct (sI h 1 x1.toNatClampNeg 8 5) x1.toNatClampNeg 0 0 (gI (sI h 1 x1.toNatClampNeg 8 5) 1 x1.toNatClampNeg 4)).2) 0 0 3).toNatClampNeg < 48)) (n10 : cZ ((f_TB_keepProduct ((f_TB_keepProduct (sI h 1 x1.toNatClampNeg 8 5) x1.toNatClampNeg 0 0 (gI (sI h 1 x1.toNatClampNeg 8 5) 1 x1.toNatClampNeg 4)).2) x1.toNatClampNeg 1 0 (gI ((f_TB_keepProduct (sI h 1 x1.toNatClampNeg 8 5) x1.toNatClampNeg 0 0 (gI (sI h 1 x1.toNatClampNeg 8 5) 1 x1.toNatClampNeg 4)).2) 1 x1.toNatClampNeg 4)).2) < ZM) (n11 : ¬ (gI ((f_TB_keepProduct ((f_TB_keepProduct (sI h 1 x1.toNatClampNeg 8 5) x1.toNatClampNeg 0 0 (gI (sI h 1 x1.toNatClampNeg 8 5) 1 x1.toNatClampNeg 4)).2) x1.toNatClampNeg 1 0 (gI ((f_TB_keepProduct (sI h 1 x1.toNatClampNeg 8 5) x1.toNatClampNeg 0 0 (gI (sI h 1 x1.toNatClampNeg 8 5) 1 x1.toNatClampNeg 4)).2) 1 x1.toNatClampNeg 4)).2) 0 0 3) < 0) (n12 : (¬ ((f_TB_isBelow x1 (gI h 0 0 3)) = 0)) → (¬ ((f_TB_isBelow x2 4) = 0)) → (¬ ((f_TB_isReady h x1.toNatClampNeg) = 0)) → ((¬ ((f_TB_hasRoomFor h (m_TB_process_42 x1 x2)) = 0)) → (¬ ((f_TB_suits x2 (gI h 1 x1.toNatClampNeg 0)) = 0)) → (x2 = 0) → (gI ((f_TB_keepProduct ((f_TB_keepProduct (sI h 1 x1.toNatClampNeg 8 5) x1.toNatClampNeg 0 0 (gI (sI h 1 x1.toNatClampNeg 8 5) 1 x1.toNatClampNeg 4)).2) x1.toNatClampNeg 1 0 (gI ((f_TB_keepProduct (sI h 1 x1.toNatClampNeg 8 5) x1.toNatClampNeg 0 0 (gI (sI h 1 x1.toNatClampNeg 8 5) 1 x1.toNatClampNeg 4)).2) 1 x1.toNatClampNeg 4)).2) 0 0 3).toNatClampNeg < 48)) (k : P (f_TB_process h x1 x2).1 (f_TB_process h x1 x2).2) : Ev E M_TB_process 0 [(0, vR 0 0), (1, vI x1), (2, vI x2)] [] h P := by
  refine Ev_aload_n (pc := 0) d_TB_process_0 rfl ?_
  refine Ev_iload_n (pc := 1) d_TB_process_1 rfl ?_
  by_cases q1 : (f_TB_isBelow x1 (gI h 0 0 3)) = 0
  · refine Ev_callV (M' := M_TB_unitAt) (as := [vI x1]) (st := []) (a := 0) (i := 0) (pc := 2) d_TB_process_2 rfl rfl rfl rfl rfl rfl rfl v_TB_unitAt lk_TB_76 rfl rfl (c_TB_unitAt hR hU hZ ?_)
    rw [f_TB_unitAt, if_pos q1]
    refine Or.inl ⟨rfl, ?_⟩
    rw [f_TB_process, if_pos q1] at k
    exact k
  · refine Ev_callV (M' := M_TB_unitAt) (as := [vI x1]) (st := []) (a := 0) (i := 0) (pc := 2) d_TB_process_2 rfl rfl rfl rfl rfl rfl rfl v_TB_unitAt lk_TB_76 rfl rfl (c_TB_unitAt hR hU hZ ?_)
    rw [f_TB_unitAt, if_neg q1]
    refine Ev_astore_n (pc := 5) d_TB_process_5 rfl ?_
    refine Ev_iload_n (pc := 6) d_TB_process_6 rfl ?_
    refine Ev_iconst (v := 4) (pc := 7) d_TB_process_7 (by decide) ?_
    refine Ev_callS (M' := M_TB_isBelow) (as := [vI x2, vI 4]) (st := []) (pc := 8) d_TB_process_8 rfl rfl rfl s_TB_isBelow lk_TB_48 rfl rfl (c_TB_isBelow  ?_)
    refine Ev_if_ne (tgt := 24) (pc := 11) d_TB_process_11 rfl (fun q2 => ?_) (fun q2 => ?_)
    · refine Ev_aload_n (pc := 24) d_TB_process_24 rfl ?_
      refine Ev_aload_n (pc := 25) d_TB_process_25 rfl ?_
      refine Ev_callV (M' := M_TB_isReady) (as := [vR 1 x1.toNatClampNeg]) (st := []) (a := 0) (i := 0) (pc := 26) d_TB_process_26 rfl rfl rfl rfl rfl rfl rfl v_TB_isReady lk_TB_93 rfl rfl (c_TB_isReady  ?_)
      refine Ev_if_eq (tgt := 48) (pc := 29) d_TB_process_29 rfl (fun q3 => ?_) (fun q3 => ?_)
      · refine Ev_throw (pc := 48) d_TB_process_48 d_TB_process_51 d_TB_process_52 d_TB_process_54 d_TB_process_57 rfl rfl th_TB_64_97_68 rfl hZ ?_
        rw [f_TB_process, if_neg q1, if_neg q2, if_pos q3] at k
        exact k
      · refine Ev_aload_n (pc := 32) d_TB_process_32 rfl ?_
        refine Ev_iload_n (pc := 33) d_TB_process_33 rfl ?_
        refine Ev_if_ne (tgt := 41) (pc := 34) d_TB_process_34 rfl (fun q4 => ?_) (fun q4 => ?_)
        · refine Ev_iconst (v := 1) (pc := 41) d_TB_process_41 (by decide) ?_
          rw [f_TB_process, if_neg q1, if_neg q2, if_neg q3] at k
          have j := c_TB_process_42 (E := E) (P := P) (h := h) (x1 := x1) (x2 := x2) q2 n3 hR n4 ((n5 q1 q2 q3)) ((n6 q1 q2 q3)) n7 n8 ((n9 q1 q2 q3)) n10 n11 ((n12 q1 q2 q3)) hZ k
          rw [m_TB_process_42, if_neg q4] at j
          exact j
        · refine Ev_iconst (v := 3) (pc := 37) d_TB_process_37 (by decide) ?_
          refine Ev_goto (tgt := 42) (pc := 38) d_TB_process_38 rfl ?_
          rw [f_TB_process, if_neg q1, if_neg q2, if_neg q3] at k
          have j := c_TB_process_42 (E := E) (P := P) (h := h) (x1 := x1) (x2 := x2) q2 n3 hR n4 ((n5 q1 q2 q3)) ((n6 q1 q2 q3)) n7 n8 ((n9 q1 q2 q3)) n10 n11 ((n12 q1 q2 q3)) hZ k
          rw [m_TB_process_42, if_pos q4] at j
          exact j
    · refine Ev_throw (pc := 14) d_TB_process_14 d_TB_process_17 d_TB_process_18 d_TB_process_20 d_TB_process_23 rfl rfl th_TB_31_91_35 rfl hZ ?_
      rw [f_TB_process, if_neg q1, if_pos q2] at k
      exact k
def f_TB_pool (h : ev_H) (x1 : Int32) (x2 : Int32) : (Option ev_V ⊕ Nat) × ev_H := (if (f_TB_isBelow x1 (gI h 0 0 3)) = 0 then (.inr 2, nx h) else (if (f_TB_isBelow x2 (gI h 0 0 3)) = 0 then (.inr 2, nx h) else (if x1 = x2 then (.inr 0, nx h) else (if (f_TB_isReady h x1.toNatClampNeg) = 0 then (.inr 1, nx h) else (if (f_TB_isReady h x2.toNatClampNeg) = 0 then (.inr 1, nx h) else (if (f_TB_hasRoomFor h 1) = 0 then (.inr 1, nx h) else (if (gI h 1 x1.toNatClampNeg 0) = 2 then (if (gI h 1 x2.toNatClampNeg 0) = 2 then (if (gI h 1 x1.toNatClampNeg 1) = (gI h 1 x2.toNatClampNeg 1) then (if (gI h 1 x1.toNatClampNeg 2) = (gI h 1 x2.toNatClampNeg 2) then (.inl (some (vI ((f_TB_keepPooled (sI (sI h 1 x1.toNatClampNeg 8 5) 1 x2.toNatClampNeg 8 5) x1.toNatClampNeg x2.toNatClampNeg).1))), (f_TB_keepPooled (sI (sI h 1 x1.toNatClampNeg 8 5) 1 x2.toNatClampNeg 8 5) x1.toNatClampNeg x2.toNatClampNeg).2) else (.inr 3, nx h)) else (.inr 3, nx h)) else (.inr 3, nx h)) else (.inr 3, nx h))))))))
theorem c_TB_pool {E : ev_E} {P : Option ev_V ⊕ Nat → ev_H → Prop} {h : ev_H} {x1 : Int32} {x2 : Int32} (hU : uok h) (hR : rfs h) (hZ : cZ h < ZM) (n3 : cZ (sI (sI h 1 x1.toNatClampNeg 8 5) 1 x2.toNatClampNeg 8 5) < ZM) (n4 : ¬ (gI h 0 0 3) < 0) (n5 : (¬ ((f_TB_isBelow x1 (gI h 0 0 3)) = 0)) → (¬ ((f_TB_isBelow x2 (gI h 0 0 3)) = 0)) → (¬ (x1 = x2)) → (¬ ((f_TB_isReady h x1.toNatClampNeg) = 0)) → (¬ ((f_TB_isReady h x2.toNatClampNeg) = 0)) → (¬ ((f_TB_hasRoomFor h 1) = 0)) → ((gI h 1 x1.toNatClampNeg 0) = 2) → ((gI h 1 x2.toNatClampNeg 0) = 2) → ((gI h 1 x1.toNatClampNeg 1) = (gI h 1 x2.toNatClampNeg 1)) → ((gI h 1 x1.toNatClampNeg 2) = (gI h 1 x2.toNatClampNeg 2)) → (gI h 0 0 3).toNatClampNeg < 48) (k : P (f_TB_pool h x1 x2).1 (f_TB_pool h x1 x2).2) : Ev E M_TB_pool 0 [(0, vR 0 0), (1, vI x1), (2, vI x2)] [] h P := by
  refine Ev_aload_n (pc := 0) d_TB_pool_0 rfl ?_
  refine Ev_iload_n (pc := 1) d_TB_pool_1 rfl ?_
  by_cases q1 : (f_TB_isBelow x1 (gI h 0 0 3)) = 0
  · refine Ev_callV (M' := M_TB_unitAt) (as := [vI x1]) (st := []) (a := 0) (i := 0) (pc := 2) d_TB_pool_2 rfl rfl rfl rfl rfl rfl rfl v_TB_unitAt lk_TB_76 rfl rfl (c_TB_unitAt hR hU hZ ?_)
    rw [f_TB_unitAt, if_pos q1]
    refine Or.inl ⟨rfl, ?_⟩
    rw [f_TB_pool, if_pos q1] at k
    exact k
  · refine Ev_callV (M' := M_TB_unitAt) (as := [vI x1]) (st := []) (a := 0) (i := 0) (pc := 2) d_TB_pool_2 rfl rfl rfl rfl rfl rfl rfl v_TB_unitAt lk_TB_76 rfl rfl (c_TB_unitAt hR hU hZ ?_)
    rw [f_TB_unitAt, if_neg q1]
    refine Ev_astore_n (pc := 5) d_TB_pool_5 rfl ?_
    refine Ev_aload_n (pc := 6) d_TB_pool_6 rfl ?_
    refine Ev_iload_n (pc := 7) d_TB_pool_7 rfl ?_
    by_cases q2 : (f_TB_isBelow x2 (gI h 0 0 3)) = 0
    · refine Ev_callV (M' := M_TB_unitAt) (as := [vI x2]) (st := []) (a := 0) (i := 0) (pc := 8) d_TB_pool_8 rfl rfl rfl rfl rfl rfl rfl v_TB_unitAt lk_TB_76 rfl rfl (c_TB_unitAt hR hU hZ ?_)
      rw [f_TB_unitAt, if_pos q2]
      refine Or.inl ⟨rfl, ?_⟩
      rw [f_TB_pool, if_neg q1, if_pos q2] at k
      exact k
    · refine Ev_callV (M' := M_TB_unitAt) (as := [vI x2]) (st := []) (a := 0) (i := 0) (pc := 8) d_TB_pool_8 rfl rfl rfl rfl rfl rfl rfl v_TB_unitAt lk_TB_76 rfl rfl (c_TB_unitAt hR hU hZ ?_)
      rw [f_TB_unitAt, if_neg q2]
      refine Ev_astore (pc := 11) d_TB_pool_11 rfl ?_
      refine Ev_iload_n (pc := 13) d_TB_pool_13 rfl ?_
      refine Ev_iload_n (pc := 14) d_TB_pool_14 rfl ?_
      refine Ev_icmp_ne (tgt := 28) (pc := 15) d_TB_pool_15 rfl (fun q3 => ?_) (fun q3 => ?_)
      · refine Ev_aload_n (pc := 28) d_TB_pool_28 rfl ?_
        refine Ev_aload_n (pc := 29) d_TB_pool_29 rfl ?_
        refine Ev_callV (M' := M_TB_isReady) (as := [vR 1 x1.toNatClampNeg]) (st := []) (a := 0) (i := 0) (pc := 30) d_TB_pool_30 rfl rfl rfl rfl rfl rfl rfl v_TB_isReady lk_TB_93 rfl rfl (c_TB_isReady  ?_)
        refine Ev_if_eq (tgt := 53) (pc := 33) d_TB_pool_33 rfl (fun q4 => ?_) (fun q4 => ?_)
        · refine Ev_throw (pc := 53) d_TB_pool_53 d_TB_pool_56 d_TB_pool_57 d_TB_pool_59 d_TB_pool_62 rfl rfl th_TB_64_126_68 rfl hZ ?_
          rw [f_TB_pool, if_neg q1, if_neg q2, if_neg q3, if_pos q4] at k
          exact k
        · refine Ev_aload_n (pc := 36) d_TB_pool_36 rfl ?_
          refine Ev_aload (pc := 37) d_TB_pool_37 rfl ?_
          refine Ev_callV (M' := M_TB_isReady) (as := [vR 1 x2.toNatClampNeg]) (st := []) (a := 0) (i := 0) (pc := 39) d_TB_pool_39 rfl rfl rfl rfl rfl rfl rfl v_TB_isReady lk_TB_93 rfl rfl (c_TB_isReady  ?_)
          refine Ev_if_eq (tgt := 53) (pc := 42) d_TB_pool_42 rfl (fun q5 => ?_) (fun q5 => ?_)
          · refine Ev_throw (pc := 53) d_TB_pool_53 d_TB_pool_56 d_TB_pool_57 d_TB_pool_59 d_TB_pool_62 rfl rfl th_TB_64_126_68 rfl hZ ?_
            rw [f_TB_pool, if_neg q1, if_neg q2, if_neg q3, if_neg q4, if_pos q5] at k
            exact k
          · refine Ev_aload_n (pc := 45) d_TB_pool_45 rfl ?_
            refine Ev_iconst (v := 1) (pc := 46) d_TB_pool_46 (by decide) ?_
            refine Ev_callV (M' := M_TB_hasRoomFor) (as := [vI 1]) (st := []) (a := 0) (i := 0) (pc := 47) d_TB_pool_47 rfl rfl rfl rfl rfl rfl rfl v_TB_hasRoomFor lk_TB_60 rfl rfl (c_TB_hasRoomFor  ?_)
            refine Ev_if_ne (tgt := 63) (pc := 50) d_TB_pool_50 rfl (fun q6 => ?_) (fun q6 => ?_)
            · refine Ev_aload_n (pc := 63) d_TB_pool_63 rfl ?_
              refine Ev_getI (pc := 64) d_TB_pool_64 rfl rfl rfl fl_TB_99 ?_
              refine Ev_iconst (v := 2) (pc := 67) d_TB_pool_67 (by decide) ?_
              refine Ev_icmp_ne (tgt := 104) (pc := 68) d_TB_pool_68 rfl (fun q7 => ?_) (fun q7 => ?_)
              · refine Ev_throw (pc := 104) d_TB_pool_104 d_TB_pool_107 d_TB_pool_108 d_TB_pool_110 d_TB_pool_113 rfl rfl th_TB_105_134_109 rfl hZ ?_
                rw [f_TB_pool, if_neg q1, if_neg q2, if_neg q3, if_neg q4, if_neg q5, if_neg q6, if_neg q7] at k
                exact k
              · refine Ev_aload (pc := 71) d_TB_pool_71 rfl ?_
                refine Ev_getI (pc := 73) d_TB_pool_73 rfl rfl rfl fl_TB_99 ?_
                refine Ev_iconst (v := 2) (pc := 76) d_TB_pool_76 (by decide) ?_
                refine Ev_icmp_ne (tgt := 104) (pc := 77) d_TB_pool_77 rfl (fun q8 => ?_) (fun q8 => ?_)
                · refine Ev_throw (pc := 104) d_TB_pool_104 d_TB_pool_107 d_TB_pool_108 d_TB_pool_110 d_TB_pool_113 rfl rfl th_TB_105_134_109 rfl hZ ?_
                  rw [f_TB_pool, if_neg q1, if_neg q2, if_neg q3, if_neg q4, if_neg q5, if_neg q6, if_pos q7, if_neg q8] at k
                  exact k
                · refine Ev_aload_n (pc := 80) d_TB_pool_80 rfl ?_
                  refine Ev_getI (pc := 81) d_TB_pool_81 rfl rfl rfl fl_TB_128 ?_
                  refine Ev_aload (pc := 84) d_TB_pool_84 rfl ?_
                  refine Ev_getI (pc := 86) d_TB_pool_86 rfl rfl rfl fl_TB_128 ?_
                  refine Ev_icmp_ne (tgt := 104) (pc := 89) d_TB_pool_89 rfl (fun q9 => ?_) (fun q9 => ?_)
                  · refine Ev_throw (pc := 104) d_TB_pool_104 d_TB_pool_107 d_TB_pool_108 d_TB_pool_110 d_TB_pool_113 rfl rfl th_TB_105_134_109 rfl hZ ?_
                    rw [f_TB_pool, if_neg q1, if_neg q2, if_neg q3, if_neg q4, if_neg q5, if_neg q6, if_pos q7, if_pos q8, if_neg q9] at k
                    exact k
                  · refine Ev_aload_n (pc := 92) d_TB_pool_92 rfl ?_
                    refine Ev_getI (pc := 93) d_TB_pool_93 rfl rfl rfl fl_TB_131 ?_
                    refine Ev_aload (pc := 96) d_TB_pool_96 rfl ?_
                    refine Ev_getI (pc := 98) d_TB_pool_98 rfl rfl rfl fl_TB_131 ?_
                    refine Ev_icmp_eq (tgt := 114) (pc := 101) d_TB_pool_101 rfl (fun q10 => ?_) (fun q10 => ?_)
                    · refine Ev_aload_n (pc := 114) d_TB_pool_114 rfl ?_
                      refine Ev_iconst (v := 5) (pc := 115) d_TB_pool_115 (by decide) ?_
                      refine Ev_putI (pc := 116) d_TB_pool_116 rfl rfl rfl fl_TB_82 rfl ?_
                      refine Ev_aload (pc := 119) d_TB_pool_119 rfl ?_
                      refine Ev_iconst (v := 5) (pc := 121) d_TB_pool_121 (by decide) ?_
                      refine Ev_putI (pc := 122) d_TB_pool_122 rfl rfl rfl fl_TB_82 rfl ?_
                      refine Ev_aload_n (pc := 125) d_TB_pool_125 rfl ?_
                      refine Ev_aload_n (pc := 126) d_TB_pool_126 rfl ?_
                      refine Ev_aload (pc := 127) d_TB_pool_127 rfl ?_
                      refine Ev_callV (M' := M_TB_keepPooled) (as := [vR 1 x1.toNatClampNeg, vR 1 x2.toNatClampNeg]) (st := []) (a := 0) (i := 0) (pc := 129) d_TB_pool_129 rfl rfl rfl rfl rfl rfl rfl v_TB_keepPooled lk_TB_136 rfl rfl (c_TB_keepPooled n3 hR n4 (n5 q1 q2 q3 q4 q5 q6 q7 q8 q9 q10) ?_)
                      refine Ev_ireturn (pc := 132) d_TB_pool_132 rfl rfl ?_
                      rw [f_TB_pool, if_neg q1, if_neg q2, if_neg q3, if_neg q4, if_neg q5, if_neg q6, if_pos q7, if_pos q8, if_pos q9, if_pos q10] at k
                      exact k
                    · refine Ev_throw (pc := 104) d_TB_pool_104 d_TB_pool_107 d_TB_pool_108 d_TB_pool_110 d_TB_pool_113 rfl rfl th_TB_105_134_109 rfl hZ ?_
                      rw [f_TB_pool, if_neg q1, if_neg q2, if_neg q3, if_neg q4, if_neg q5, if_neg q6, if_pos q7, if_pos q8, if_pos q9, if_neg q10] at k
                      exact k
            · refine Ev_throw (pc := 53) d_TB_pool_53 d_TB_pool_56 d_TB_pool_57 d_TB_pool_59 d_TB_pool_62 rfl rfl th_TB_64_126_68 rfl hZ ?_
              rw [f_TB_pool, if_neg q1, if_neg q2, if_neg q3, if_neg q4, if_neg q5, if_pos q6] at k
              exact k
      · refine Ev_throw (pc := 18) d_TB_pool_18 d_TB_pool_21 d_TB_pool_22 d_TB_pool_24 d_TB_pool_27 rfl rfl th_TB_31_124_35 rfl hZ ?_
        rw [f_TB_pool, if_neg q1, if_neg q2, if_pos q3] at k
        exact k