/-! contracts (by program) -/
def f_TB_isBelow (x0 : Int32) (x1 : Int32) : Int32 := (if x0 < 0 then 0 else (if x1 ≤ x0 then 0 else 1))
theorem c_TB_isBelow {E : ev_E} {P : Option ev_V ⊕ Nat → ev_H → Prop} {h : ev_H} {x0 : Int32} {x1 : Int32} (k : P (.inl (some (vI (f_TB_isBelow x0 x1)))) h) : Ev E M_TB_isBelow 0 [(0, vI x0), (1, vI x1)] [] h P := by
  refine Ev_iload_n (pc := 0) d_TB_isBelow_0 rfl ?_
  refine Ev_if_lt (tgt := 13) (pc := 1) d_TB_isBelow_1 rfl (fun q1 => ?_) (fun q1 => ?_)
  · refine Ev_iconst (v := 0) (pc := 13) d_TB_isBelow_13 (by decide) ?_
    refine Ev_ireturn (pc := 14) d_TB_isBelow_14 rfl rfl ?_
    rw [f_TB_isBelow, if_pos q1] at k
    exact k
  · refine Ev_iload_n (pc := 4) d_TB_isBelow_4 rfl ?_
    refine Ev_iload_n (pc := 5) d_TB_isBelow_5 rfl ?_
    refine Ev_icmp_ge (tgt := 13) (pc := 6) d_TB_isBelow_6 rfl (fun q2 => ?_) (fun q2 => ?_)
    · refine Ev_iconst (v := 0) (pc := 13) d_TB_isBelow_13 (by decide) ?_
      refine Ev_ireturn (pc := 14) d_TB_isBelow_14 rfl rfl ?_
      rw [f_TB_isBelow, if_neg q1, if_pos q2] at k
      exact k
    · refine Ev_iconst (v := 1) (pc := 9) d_TB_isBelow_9 (by decide) ?_
      refine Ev_goto (tgt := 14) (pc := 10) d_TB_isBelow_10 rfl ?_
      refine Ev_ireturn (pc := 14) d_TB_isBelow_14 rfl rfl ?_
      rw [f_TB_isBelow, if_neg q1, if_neg q2] at k
      exact k
theorem b_f_TB_isBelow {x0 : Int32} {x1 : Int32} : f_TB_isBelow x0 x1 = 0 ∨ f_TB_isBelow x0 x1 = 1 := by
  unfold f_TB_isBelow
  first | exact Or.inl rfl | exact Or.inr rfl | (repeat' (split)) <;> (first | exact Or.inl rfl | exact Or.inr rfl)
theorem isB_0 {x b : Int32} (q : ¬ f_TB_isBelow x b = 0) : ¬ x < 0 := fun z => q (by rw [f_TB_isBelow, if_pos z])
theorem isB_b {x b : Int32} (q : ¬ f_TB_isBelow x b = 0) : ¬ b ≤ x := fun z => q (by rw [f_TB_isBelow, if_neg (isB_0 q), if_pos z])
theorem isB_1 {x b : Int32} {n : Nat} (q : ¬ f_TB_isBelow x b = 0) (hb : b.toInt = n) : x.toNatClampNeg < n := by
  have q1 := isB_0 q
  have q2 := isB_b q
  rw [Int32.lt_iff_toInt_lt] at q1
  rw [Int32.le_iff_toInt_le] at q2
  have e0 : (0 : Int32).toInt = 0 := by decide
  rw [i_tn]
  omega
/-- units and patients as they are found -/
def uok (h : ev_H) : Prop := ∀ x : Int32, ¬ f_TB_isBelow x (gI h 0 0 3) = 0 → ¬ x < 0 ∧ x.toNatClampNeg < 48 ∧ gR h 0 1 x.toNatClampNeg = vR 1 x.toNatClampNeg
def pok (h : ev_H) : Prop := ∀ x : Int32, ¬ f_TB_isBelow x (gI h 0 0 4) = 0 → ¬ x < 0 ∧ x.toNatClampNeg < 10 ∧ gR h 0 2 x.toNatClampNeg = vR 2 x.toNatClampNeg ∧ gR h 2 x.toNatClampNeg 6 = vR 3 x.toNatClampNeg
def f_TB_isBloodType (x0 : Int32) (x1 : Int32) : Int32 := (if (f_TB_isBelow x0 4) = 0 then 0 else (if (f_TB_isBelow x1 2) = 0 then 0 else 1))
theorem c_TB_isBloodType {E : ev_E} {P : Option ev_V ⊕ Nat → ev_H → Prop} {h : ev_H} {x0 : Int32} {x1 : Int32} (k : P (.inl (some (vI (f_TB_isBloodType x0 x1)))) h) : Ev E M_TB_isBloodType 0 [(0, vI x0), (1, vI x1)] [] h P := by
  refine Ev_iload_n (pc := 0) d_TB_isBloodType_0 rfl ?_
  refine Ev_iconst (v := 4) (pc := 1) d_TB_isBloodType_1 (by decide) ?_
  refine Ev_callS (M' := M_TB_isBelow) (as := [vI x0, vI 4]) (st := []) (pc := 2) d_TB_isBloodType_2 rfl rfl rfl s_TB_isBelow lk_TB_48 rfl rfl (c_TB_isBelow  ?_)
  refine Ev_if_eq (tgt := 20) (pc := 5) d_TB_isBloodType_5 rfl (fun q1 => ?_) (fun q1 => ?_)
  · refine Ev_iconst (v := 0) (pc := 20) d_TB_isBloodType_20 (by decide) ?_
    refine Ev_ireturn (pc := 21) d_TB_isBloodType_21 rfl rfl ?_
    rw [f_TB_isBloodType, if_pos q1] at k
    exact k
  · refine Ev_iload_n (pc := 8) d_TB_isBloodType_8 rfl ?_
    refine Ev_iconst (v := 2) (pc := 9) d_TB_isBloodType_9 (by decide) ?_
    refine Ev_callS (M' := M_TB_isBelow) (as := [vI x1, vI 2]) (st := []) (pc := 10) d_TB_isBloodType_10 rfl rfl rfl s_TB_isBelow lk_TB_48 rfl rfl (c_TB_isBelow  ?_)
    refine Ev_if_eq (tgt := 20) (pc := 13) d_TB_isBloodType_13 rfl (fun q2 => ?_) (fun q2 => ?_)
    · refine Ev_iconst (v := 0) (pc := 20) d_TB_isBloodType_20 (by decide) ?_
      refine Ev_ireturn (pc := 21) d_TB_isBloodType_21 rfl rfl ?_
      rw [f_TB_isBloodType, if_neg q1, if_pos q2] at k
      exact k
    · refine Ev_iconst (v := 1) (pc := 16) d_TB_isBloodType_16 (by decide) ?_
      refine Ev_goto (tgt := 21) (pc := 17) d_TB_isBloodType_17 rfl ?_
      refine Ev_ireturn (pc := 21) d_TB_isBloodType_21 rfl rfl ?_
      rw [f_TB_isBloodType, if_neg q1, if_neg q2] at k
      exact k
theorem b_f_TB_isBloodType {x0 : Int32} {x1 : Int32} : f_TB_isBloodType x0 x1 = 0 ∨ f_TB_isBloodType x0 x1 = 1 := by
  unfold f_TB_isBloodType
  first | exact Or.inl rfl | exact Or.inr rfl | (repeat' (split)) <;> (first | exact Or.inl rfl | exact Or.inr rfl | exact b_f_TB_isBelow)
def f_UN_isExpired (h : ev_H) (u : Nat) (x1 : Int32) : Int32 := (if x1 < (gI h 1 u 4) then 0 else 1)
theorem c_UN_isExpired {E : ev_E} {P : Option ev_V ⊕ Nat → ev_H → Prop} {h : ev_H} {u : Nat} {x1 : Int32} (k : P (.inl (some (vI (f_UN_isExpired h u x1)))) h) : Ev E M_UN_isExpired 0 [(0, vR 1 u), (1, vI x1)] [] h P := by
  refine Ev_iload_n (pc := 0) d_UN_isExpired_0 rfl ?_
  refine Ev_aload_n (pc := 1) d_UN_isExpired_1 rfl ?_
  refine Ev_getI (pc := 2) d_UN_isExpired_2 rfl rfl rfl fl_UN_33 ?_
  refine Ev_icmp_lt (tgt := 12) (pc := 5) d_UN_isExpired_5 rfl (fun q1 => ?_) (fun q1 => ?_)
  · refine Ev_iconst (v := 0) (pc := 12) d_UN_isExpired_12 (by decide) ?_
    refine Ev_ireturn (pc := 13) d_UN_isExpired_13 rfl rfl ?_
    rw [f_UN_isExpired, if_pos q1] at k
    exact k
  · refine Ev_iconst (v := 1) (pc := 8) d_UN_isExpired_8 (by decide) ?_
    refine Ev_goto (tgt := 13) (pc := 9) d_UN_isExpired_9 rfl ?_
    refine Ev_ireturn (pc := 13) d_UN_isExpired_13 rfl rfl ?_
    rw [f_UN_isExpired, if_neg q1] at k
    exact k
theorem b_f_UN_isExpired {h : ev_H} {u : Nat} {x1 : Int32} : f_UN_isExpired h u x1 = 0 ∨ f_UN_isExpired h u x1 = 1 := by
  unfold f_UN_isExpired
  first | exact Or.inl rfl | exact Or.inr rfl | (repeat' (split)) <;> (first | exact Or.inl rfl | exact Or.inr rfl)
def f_UN_isBarred (h : ev_H) (u : Nat) (x1 : Int32) : Int32 := (if ((gI h 1 u 3) &&& x1) = 0 then 0 else 1)
theorem c_UN_isBarred {E : ev_E} {P : Option ev_V ⊕ Nat → ev_H → Prop} {h : ev_H} {u : Nat} {x1 : Int32} (k : P (.inl (some (vI (f_UN_isBarred h u x1)))) h) : Ev E M_UN_isBarred 0 [(0, vR 1 u), (1, vI x1)] [] h P := by
  refine Ev_aload_n (pc := 0) d_UN_isBarred_0 rfl ?_
  refine Ev_getI (pc := 1) d_UN_isBarred_1 rfl rfl rfl fl_UN_30 ?_
  refine Ev_iload_n (pc := 4) d_UN_isBarred_4 rfl ?_
  refine Ev_iand (pc := 5) d_UN_isBarred_5 ?_
  refine Ev_if_eq (tgt := 13) (pc := 6) d_UN_isBarred_6 rfl (fun q1 => ?_) (fun q1 => ?_)
  · refine Ev_iconst (v := 0) (pc := 13) d_UN_isBarred_13 (by decide) ?_
    refine Ev_ireturn (pc := 14) d_UN_isBarred_14 rfl rfl ?_
    rw [f_UN_isBarred, if_pos q1] at k
    exact k
  · refine Ev_iconst (v := 1) (pc := 9) d_UN_isBarred_9 (by decide) ?_
    refine Ev_goto (tgt := 14) (pc := 10) d_UN_isBarred_10 rfl ?_
    refine Ev_ireturn (pc := 14) d_UN_isBarred_14 rfl rfl ?_
    rw [f_UN_isBarred, if_neg q1] at k
    exact k
theorem b_f_UN_isBarred {h : ev_H} {u : Nat} {x1 : Int32} : f_UN_isBarred h u x1 = 0 ∨ f_UN_isBarred h u x1 = 1 := by
  unfold f_UN_isBarred
  first | exact Or.inl rfl | exact Or.inr rfl | (repeat' (split)) <;> (first | exact Or.inl rfl | exact Or.inr rfl)
def f_UN_isInHouse (h : ev_H) (u : Nat) : Int32 := (if (gI h 1 u 8) = 0 then 1 else (if (gI h 1 u 8) = 1 then 1 else 0))
theorem c_UN_isInHouse {E : ev_E} {P : Option ev_V ⊕ Nat → ev_H → Prop} {h : ev_H} {u : Nat} (k : P (.inl (some (vI (f_UN_isInHouse h u)))) h) : Ev E M_UN_isInHouse 0 [(0, vR 1 u)] [] h P := by
  refine Ev_aload_n (pc := 0) d_UN_isInHouse_0 rfl ?_
  refine Ev_getI (pc := 1) d_UN_isInHouse_1 rfl rfl rfl fl_UN_9 ?_
  refine Ev_if_eq (tgt := 15) (pc := 4) d_UN_isInHouse_4 rfl (fun q1 => ?_) (fun q1 => ?_)
  · refine Ev_iconst (v := 1) (pc := 15) d_UN_isInHouse_15 (by decide) ?_
    refine Ev_goto (tgt := 20) (pc := 16) d_UN_isInHouse_16 rfl ?_
    refine Ev_ireturn (pc := 20) d_UN_isInHouse_20 rfl rfl ?_
    rw [f_UN_isInHouse, if_pos q1] at k
    exact k
  · refine Ev_aload_n (pc := 7) d_UN_isInHouse_7 rfl ?_
    refine Ev_getI (pc := 8) d_UN_isInHouse_8 rfl rfl rfl fl_UN_9 ?_
    refine Ev_iconst (v := 1) (pc := 11) d_UN_isInHouse_11 (by decide) ?_
    refine Ev_icmp_ne (tgt := 19) (pc := 12) d_UN_isInHouse_12 rfl (fun q2 => ?_) (fun q2 => ?_)
    · refine Ev_iconst (v := 0) (pc := 19) d_UN_isInHouse_19 (by decide) ?_
      refine Ev_ireturn (pc := 20) d_UN_isInHouse_20 rfl rfl ?_
      rw [f_UN_isInHouse, if_neg q1, if_neg q2] at k
      exact k
    · refine Ev_iconst (v := 1) (pc := 15) d_UN_isInHouse_15 (by decide) ?_
      refine Ev_goto (tgt := 20) (pc := 16) d_UN_isInHouse_16 rfl ?_
      refine Ev_ireturn (pc := 20) d_UN_isInHouse_20 rfl rfl ?_
      rw [f_UN_isInHouse, if_neg q1, if_pos q2] at k
      exact k
theorem b_f_UN_isInHouse {h : ev_H} {u : Nat} : f_UN_isInHouse h u = 0 ∨ f_UN_isInHouse h u = 1 := by
  unfold f_UN_isInHouse
  first | exact Or.inl rfl | exact Or.inr rfl | (repeat' (split)) <;> (first | exact Or.inl rfl | exact Or.inr rfl)
def f_UN_isForEmergencies (h : ev_H) (u : Nat) : Int32 := (if (gI h 1 u 0) = 0 then (if (gI h 1 u 1) = 0 then 1 else (if (gI h 1 u 0) = 1 then (if (gI h 1 u 1) = 3 then 1 else 0) else 0)) else (if (gI h 1 u 0) = 1 then (if (gI h 1 u 1) = 3 then 1 else 0) else 0))
theorem c_UN_isForEmergencies {E : ev_E} {P : Option ev_V ⊕ Nat → ev_H → Prop} {h : ev_H} {u : Nat} (k : P (.inl (some (vI (f_UN_isForEmergencies h u)))) h) : Ev E M_UN_isForEmergencies 0 [(0, vR 1 u)] [] h P := by
  refine Ev_aload_n (pc := 0) d_UN_isForEmergencies_0 rfl ?_
  refine Ev_getI (pc := 1) d_UN_isForEmergencies_1 rfl rfl rfl fl_UN_21 ?_
  refine Ev_if_ne (tgt := 14) (pc := 4) d_UN_isForEmergencies_4 rfl (fun q1 => ?_) (fun q1 => ?_)
  · refine Ev_aload_n (pc := 14) d_UN_isForEmergencies_14 rfl ?_
    refine Ev_getI (pc := 15) d_UN_isForEmergencies_15 rfl rfl rfl fl_UN_21 ?_
    refine Ev_iconst (v := 1) (pc := 18) d_UN_isForEmergencies_18 (by decide) ?_
    refine Ev_icmp_ne (tgt := 34) (pc := 19) d_UN_isForEmergencies_19 rfl (fun q2 => ?_) (fun q2 => ?_)
    · refine Ev_iconst (v := 0) (pc := 34) d_UN_isForEmergencies_34 (by decide) ?_
      refine Ev_ireturn (pc := 35) d_UN_isForEmergencies_35 rfl rfl ?_
      rw [f_UN_isForEmergencies, if_neg q1, if_neg q2] at k
      exact k
    · refine Ev_aload_n (pc := 22) d_UN_isForEmergencies_22 rfl ?_
      refine Ev_getI (pc := 23) d_UN_isForEmergencies_23 rfl rfl rfl fl_UN_24 ?_
      refine Ev_iconst (v := 3) (pc := 26) d_UN_isForEmergencies_26 (by decide) ?_
      refine Ev_icmp_ne (tgt := 34) (pc := 27) d_UN_isForEmergencies_27 rfl (fun q3 => ?_) (fun q3 => ?_)
      · refine Ev_iconst (v := 0) (pc := 34) d_UN_isForEmergencies_34 (by decide) ?_
        refine Ev_ireturn (pc := 35) d_UN_isForEmergencies_35 rfl rfl ?_
        rw [f_UN_isForEmergencies, if_neg q1, if_pos q2, if_neg q3] at k
        exact k
      · refine Ev_iconst (v := 1) (pc := 30) d_UN_isForEmergencies_30 (by decide) ?_
        refine Ev_goto (tgt := 35) (pc := 31) d_UN_isForEmergencies_31 rfl ?_
        refine Ev_ireturn (pc := 35) d_UN_isForEmergencies_35 rfl rfl ?_
        rw [f_UN_isForEmergencies, if_neg q1, if_pos q2, if_pos q3] at k
        exact k
  · refine Ev_aload_n (pc := 7) d_UN_isForEmergencies_7 rfl ?_
    refine Ev_getI (pc := 8) d_UN_isForEmergencies_8 rfl rfl rfl fl_UN_24 ?_
    refine Ev_if_eq (tgt := 30) (pc := 11) d_UN_isForEmergencies_11 rfl (fun q4 => ?_) (fun q4 => ?_)
    · refine Ev_iconst (v := 1) (pc := 30) d_UN_isForEmergencies_30 (by decide) ?_
      refine Ev_goto (tgt := 35) (pc := 31) d_UN_isForEmergencies_31 rfl ?_
      refine Ev_ireturn (pc := 35) d_UN_isForEmergencies_35 rfl rfl ?_
      rw [f_UN_isForEmergencies, if_pos q1, if_pos q4] at k
      exact k
    · refine Ev_aload_n (pc := 14) d_UN_isForEmergencies_14 rfl ?_
      refine Ev_getI (pc := 15) d_UN_isForEmergencies_15 rfl rfl rfl fl_UN_21 ?_
      refine Ev_iconst (v := 1) (pc := 18) d_UN_isForEmergencies_18 (by decide) ?_
      refine Ev_icmp_ne (tgt := 34) (pc := 19) d_UN_isForEmergencies_19 rfl (fun q5 => ?_) (fun q5 => ?_)
      · refine Ev_iconst (v := 0) (pc := 34) d_UN_isForEmergencies_34 (by decide) ?_
        refine Ev_ireturn (pc := 35) d_UN_isForEmergencies_35 rfl rfl ?_
        rw [f_UN_isForEmergencies, if_pos q1, if_neg q4, if_neg q5] at k
        exact k
      · refine Ev_aload_n (pc := 22) d_UN_isForEmergencies_22 rfl ?_
        refine Ev_getI (pc := 23) d_UN_isForEmergencies_23 rfl rfl rfl fl_UN_24 ?_
        refine Ev_iconst (v := 3) (pc := 26) d_UN_isForEmergencies_26 (by decide) ?_
        refine Ev_icmp_ne (tgt := 34) (pc := 27) d_UN_isForEmergencies_27 rfl (fun q6 => ?_) (fun q6 => ?_)
        · refine Ev_iconst (v := 0) (pc := 34) d_UN_isForEmergencies_34 (by decide) ?_
          refine Ev_ireturn (pc := 35) d_UN_isForEmergencies_35 rfl rfl ?_
          rw [f_UN_isForEmergencies, if_pos q1, if_neg q4, if_pos q5, if_neg q6] at k
          exact k
        · refine Ev_iconst (v := 1) (pc := 30) d_UN_isForEmergencies_30 (by decide) ?_
          refine Ev_goto (tgt := 35) (pc := 31) d_UN_isForEmergencies_31 rfl ?_
          refine Ev_ireturn (pc := 35) d_UN_isForEmergencies_35 rfl rfl ?_
          rw [f_UN_isForEmergencies, if_pos q1, if_neg q4, if_pos q5, if_pos q6] at k
          exact k
theorem b_f_UN_isForEmergencies {h : ev_H} {u : Nat} : f_UN_isForEmergencies h u = 0 ∨ f_UN_isForEmergencies h u = 1 := by
  unfold f_UN_isForEmergencies
  first | exact Or.inl rfl | exact Or.inr rfl | (repeat' (split)) <;> (first | exact Or.inl rfl | exact Or.inr rfl)
def f_UN_wentTo (h : ev_H) (u : Nat) (x1 : Int32) : Int32 := (if (gI h 1 u 12) = (-1) then 0 else (if (gI h 1 u 9) = x1 then 1 else 0))
theorem c_UN_wentTo {E : ev_E} {P : Option ev_V ⊕ Nat → ev_H → Prop} {h : ev_H} {u : Nat} {x1 : Int32} (k : P (.inl (some (vI (f_UN_wentTo h u x1)))) h) : Ev E M_UN_wentTo 0 [(0, vR 1 u), (1, vI x1)] [] h P := by
  refine Ev_aload_n (pc := 0) d_UN_wentTo_0 rfl ?_
  refine Ev_getI (pc := 1) d_UN_wentTo_1 rfl rfl rfl fl_UN_18 ?_
  refine Ev_iconst (v := -1) (pc := 4) d_UN_wentTo_4 (by decide) ?_
  refine Ev_icmp_eq (tgt := 20) (pc := 5) d_UN_wentTo_5 rfl (fun q1 => ?_) (fun q1 => ?_)
  · refine Ev_iconst (v := 0) (pc := 20) d_UN_wentTo_20 (by decide) ?_
    refine Ev_ireturn (pc := 21) d_UN_wentTo_21 rfl rfl ?_
    rw [f_UN_wentTo, if_pos q1] at k
    exact k
  · refine Ev_aload_n (pc := 8) d_UN_wentTo_8 rfl ?_
    refine Ev_getI (pc := 9) d_UN_wentTo_9 rfl rfl rfl fl_UN_15 ?_
    refine Ev_iload_n (pc := 12) d_UN_wentTo_12 rfl ?_
    refine Ev_icmp_ne (tgt := 20) (pc := 13) d_UN_wentTo_13 rfl (fun q2 => ?_) (fun q2 => ?_)
    · refine Ev_iconst (v := 0) (pc := 20) d_UN_wentTo_20 (by decide) ?_
      refine Ev_ireturn (pc := 21) d_UN_wentTo_21 rfl rfl ?_
      rw [f_UN_wentTo, if_neg q1, if_neg q2] at k
      exact k
    · refine Ev_iconst (v := 1) (pc := 16) d_UN_wentTo_16 (by decide) ?_
      refine Ev_goto (tgt := 21) (pc := 17) d_UN_wentTo_17 rfl ?_
      refine Ev_ireturn (pc := 21) d_UN_wentTo_21 rfl rfl ?_
      rw [f_UN_wentTo, if_neg q1, if_pos q2] at k
      exact k
theorem b_f_UN_wentTo {h : ev_H} {u : Nat} {x1 : Int32} : f_UN_wentTo h u x1 = 0 ∨ f_UN_wentTo h u x1 = 1 := by
  unfold f_UN_wentTo
  first | exact Or.inl rfl | exact Or.inr rfl | (repeat' (split)) <;> (first | exact Or.inl rfl | exact Or.inr rfl)
def f_UN_antigenValue (h : ev_H) (u : Nat) (x1 : Int32) : Int32 := (if ((gI h 1 u 5) &&& (1 <<< (x1 &&& 31))) = 0 then (if ((gI h 1 u 6) &&& (1 <<< (x1 &&& 31))) = 0 then 2 else 0) else 1)
theorem c_UN_antigenValue {E : ev_E} {P : Option ev_V ⊕ Nat → ev_H → Prop} {h : ev_H} {u : Nat} {x1 : Int32} (k : P (.inl (some (vI (f_UN_antigenValue h u x1)))) h) : Ev E M_UN_antigenValue 0 [(0, vR 1 u), (1, vI x1)] [] h P := by
  refine Ev_iconst (v := 1) (pc := 0) d_UN_antigenValue_0 (by decide) ?_
  refine Ev_iload_n (pc := 1) d_UN_antigenValue_1 rfl ?_
  refine Ev_ishl (pc := 2) d_UN_antigenValue_2 ?_
  refine Ev_istore_n (pc := 3) d_UN_antigenValue_3 rfl ?_
  refine Ev_aload_n (pc := 4) d_UN_antigenValue_4 rfl ?_
  refine Ev_getI (pc := 5) d_UN_antigenValue_5 rfl rfl rfl fl_UN_36 ?_
  refine Ev_iload_n (pc := 8) d_UN_antigenValue_8 rfl ?_
  refine Ev_iand (pc := 9) d_UN_antigenValue_9 ?_
  refine Ev_if_eq (tgt := 15) (pc := 10) d_UN_antigenValue_10 rfl (fun q1 => ?_) (fun q1 => ?_)
  · refine Ev_aload_n (pc := 15) d_UN_antigenValue_15 rfl ?_
    refine Ev_getI (pc := 16) d_UN_antigenValue_16 rfl rfl rfl fl_UN_39 ?_
    refine Ev_iload_n (pc := 19) d_UN_antigenValue_19 rfl ?_
    refine Ev_iand (pc := 20) d_UN_antigenValue_20 ?_
    refine Ev_if_eq (tgt := 28) (pc := 21) d_UN_antigenValue_21 rfl (fun q2 => ?_) (fun q2 => ?_)
    · refine Ev_iconst (v := 2) (pc := 28) d_UN_antigenValue_28 (by decide) ?_
      refine Ev_ireturn (pc := 29) d_UN_antigenValue_29 rfl rfl ?_
      rw [f_UN_antigenValue, if_pos q1, if_pos q2] at k
      exact k
    · refine Ev_iconst (v := 0) (pc := 24) d_UN_antigenValue_24 (by decide) ?_
      refine Ev_goto (tgt := 29) (pc := 25) d_UN_antigenValue_25 rfl ?_
      refine Ev_ireturn (pc := 29) d_UN_antigenValue_29 rfl rfl ?_
      rw [f_UN_antigenValue, if_pos q1, if_neg q2] at k
      exact k
  · refine Ev_iconst (v := 1) (pc := 13) d_UN_antigenValue_13 (by decide) ?_
    refine Ev_ireturn (pc := 14) d_UN_antigenValue_14 rfl rfl ?_
    rw [f_UN_antigenValue, if_neg q1] at k
    exact k
def m_UN_setAntigen_27 (h : ev_H) (u : Nat) (x1 : Int32) (x2 : Int32) : Int32 := (if x2 = 1 then (gI h 1 u 5) ||| (1 <<< (x1 &&& 31)) else (gI h 1 u 5) &&& ((1 <<< (x1 &&& 31)) ^^^ (-1)))
def m_UN_setAntigen_52 (h : ev_H) (u : Nat) (x1 : Int32) (x2 : Int32) : Int32 := (if x2 = 0 then (gI (sI h 1 u 5 (m_UN_setAntigen_27 h u x1 x2)) 1 u 6) ||| (1 <<< (x1 &&& 31)) else (gI (sI h 1 u 5 (m_UN_setAntigen_27 h u x1 x2)) 1 u 6) &&& ((1 <<< (x1 &&& 31)) ^^^ (-1)))
def f_UN_setAntigen_52 (h : ev_H) (u : Nat) (x1 : Int32) (x2 : Int32) : ev_H := (sI (sI h 1 u 5 (m_UN_setAntigen_27 h u x1 x2)) 1 u 6 (m_UN_setAntigen_52 h u x1 x2))
theorem c_UN_setAntigen_52 {E : ev_E} {P : Option ev_V ⊕ Nat → ev_H → Prop} {h : ev_H} {u : Nat} {x1 : Int32} {x2 : Int32} (k : P (.inl none) (f_UN_setAntigen_52 h u x1 x2)) : Ev E M_UN_setAntigen 52 [(0, vR 1 u), (1, vI x1), (2, vI x2), (3, vI (1 <<< (x1 &&& 31)))] [vI (m_UN_setAntigen_52 h u x1 x2), vR 1 u] (sI h 1 u 5 (m_UN_setAntigen_27 h u x1 x2)) P := by
  refine Ev_putI (pc := 52) d_UN_setAntigen_52 rfl rfl rfl fl_UN_39 rfl ?_
  refine Ev_return (pc := 55) d_UN_setAntigen_55 rfl ?_
  rw [f_UN_setAntigen_52] at k
  exact k
def f_UN_setAntigen_27 (h : ev_H) (u : Nat) (x1 : Int32) (x2 : Int32) : ev_H := f_UN_setAntigen_52 h u x1 x2
theorem c_UN_setAntigen_27 {E : ev_E} {P : Option ev_V ⊕ Nat → ev_H → Prop} {h : ev_H} {u : Nat} {x1 : Int32} {x2 : Int32} (k : P (.inl none) (f_UN_setAntigen_27 h u x1 x2)) : Ev E M_UN_setAntigen 27 [(0, vR 1 u), (1, vI x1), (2, vI x2), (3, vI (1 <<< (x1 &&& 31)))] [vI (m_UN_setAntigen_27 h u x1 x2), vR 1 u] h P := by
  refine Ev_putI (pc := 27) d_UN_setAntigen_27 rfl rfl rfl fl_UN_36 rfl ?_
  refine Ev_aload_n (pc := 30) d_UN_setAntigen_30 rfl ?_
  refine Ev_iload_n (pc := 31) d_UN_setAntigen_31 rfl ?_
  refine Ev_if_ne (tgt := 44) (pc := 32) d_UN_setAntigen_32 rfl (fun q2 => ?_) (fun q2 => ?_)
  · refine Ev_aload_n (pc := 44) d_UN_setAntigen_44 rfl ?_
    refine Ev_getI (pc := 45) d_UN_setAntigen_45 rfl rfl rfl fl_UN_39 ?_
    refine Ev_iload_n (pc := 48) d_UN_setAntigen_48 rfl ?_
    refine Ev_iconst (v := -1) (pc := 49) d_UN_setAntigen_49 (by decide) ?_
    refine Ev_ixor (pc := 50) d_UN_setAntigen_50 ?_
    refine Ev_iand (pc := 51) d_UN_setAntigen_51 ?_
    rw [f_UN_setAntigen_27] at k
    have j := c_UN_setAntigen_52 (E := E) (P := P) (h := h) (u := u) (x1 := x1) (x2 := x2)  k
    rw [m_UN_setAntigen_52, if_neg q2] at j
    exact j
  · refine Ev_aload_n (pc := 35) d_UN_setAntigen_35 rfl ?_
    refine Ev_getI (pc := 36) d_UN_setAntigen_36 rfl rfl rfl fl_UN_39 ?_
    refine Ev_iload_n (pc := 39) d_UN_setAntigen_39 rfl ?_
    refine Ev_ior (pc := 40) d_UN_setAntigen_40 ?_
    refine Ev_goto (tgt := 52) (pc := 41) d_UN_setAntigen_41 rfl ?_
    rw [f_UN_setAntigen_27] at k
    have j := c_UN_setAntigen_52 (E := E) (P := P) (h := h) (u := u) (x1 := x1) (x2 := x2)  k
    rw [m_UN_setAntigen_52, if_pos q2] at j
    exact j
def f_UN_setAntigen (h : ev_H) (u : Nat) (x1 : Int32) (x2 : Int32) : ev_H := f_UN_setAntigen_27 h u x1 x2
theorem c_UN_setAntigen {E : ev_E} {P : Option ev_V ⊕ Nat → ev_H → Prop} {h : ev_H} {u : Nat} {x1 : Int32} {x2 : Int32} (k : P (.inl none) (f_UN_setAntigen h u x1 x2)) : Ev E M_UN_setAntigen 0 [(0, vR 1 u), (1, vI x1), (2, vI x2)] [] h P := by
  refine Ev_iconst (v := 1) (pc := 0) d_UN_setAntigen_0 (by decide) ?_
  refine Ev_iload_n (pc := 1) d_UN_setAntigen_1 rfl ?_
  refine Ev_ishl (pc := 2) d_UN_setAntigen_2 ?_
  refine Ev_istore_n (pc := 3) d_UN_setAntigen_3 rfl ?_
  refine Ev_aload_n (pc := 4) d_UN_setAntigen_4 rfl ?_
  refine Ev_iload_n (pc := 5) d_UN_setAntigen_5 rfl ?_
  refine Ev_iconst (v := 1) (pc := 6) d_UN_setAntigen_6 (by decide) ?_
  refine Ev_icmp_ne (tgt := 19) (pc := 7) d_UN_setAntigen_7 rfl (fun q1 => ?_) (fun q1 => ?_)
  · refine Ev_aload_n (pc := 19) d_UN_setAntigen_19 rfl ?_
    refine Ev_getI (pc := 20) d_UN_setAntigen_20 rfl rfl rfl fl_UN_36 ?_
    refine Ev_iload_n (pc := 23) d_UN_setAntigen_23 rfl ?_
    refine Ev_iconst (v := -1) (pc := 24) d_UN_setAntigen_24 (by decide) ?_
    refine Ev_ixor (pc := 25) d_UN_setAntigen_25 ?_
    refine Ev_iand (pc := 26) d_UN_setAntigen_26 ?_
    rw [f_UN_setAntigen] at k
    have j := c_UN_setAntigen_27 (E := E) (P := P) (h := h) (u := u) (x1 := x1) (x2 := x2)  k
    rw [m_UN_setAntigen_27, if_neg q1] at j
    exact j
  · refine Ev_aload_n (pc := 10) d_UN_setAntigen_10 rfl ?_
    refine Ev_getI (pc := 11) d_UN_setAntigen_11 rfl rfl rfl fl_UN_36 ?_
    refine Ev_iload_n (pc := 14) d_UN_setAntigen_14 rfl ?_
    refine Ev_ior (pc := 15) d_UN_setAntigen_15 ?_
    refine Ev_goto (tgt := 27) (pc := 16) d_UN_setAntigen_16 rfl ?_
    rw [f_UN_setAntigen] at k
    have j := c_UN_setAntigen_27 (E := E) (P := P) (h := h) (u := u) (x1 := x1) (x2 := x2)  k
    rw [m_UN_setAntigen_27, if_pos q1] at j
    exact j
def f_UN_reserveFor (h : ev_H) (u : Nat) (x1 : Int32) (x2 : Int32) : ev_H := (sI (sI (sI h 1 u 8 1) 1 u 9 x1) 1 u 10 x2)
theorem c_UN_reserveFor {E : ev_E} {P : Option ev_V ⊕ Nat → ev_H → Prop} {h : ev_H} {u : Nat} {x1 : Int32} {x2 : Int32} (k : P (.inl none) (f_UN_reserveFor h u x1 x2)) : Ev E M_UN_reserveFor 0 [(0, vR 1 u), (1, vI x1), (2, vI x2)] [] h P := by
  refine Ev_aload_n (pc := 0) d_UN_reserveFor_0 rfl ?_
  refine Ev_iconst (v := 1) (pc := 1) d_UN_reserveFor_1 (by decide) ?_
  refine Ev_putI (pc := 2) d_UN_reserveFor_2 rfl rfl rfl fl_UN_9 rfl ?_
  refine Ev_aload_n (pc := 5) d_UN_reserveFor_5 rfl ?_
  refine Ev_iload_n (pc := 6) d_UN_reserveFor_6 rfl ?_
  refine Ev_putI (pc := 7) d_UN_reserveFor_7 rfl rfl rfl fl_UN_15 rfl ?_
  refine Ev_aload_n (pc := 10) d_UN_reserveFor_10 rfl ?_
  refine Ev_iload_n (pc := 11) d_UN_reserveFor_11 rfl ?_
  refine Ev_putI (pc := 12) d_UN_reserveFor_12 rfl rfl rfl fl_UN_42 rfl ?_
  refine Ev_return (pc := 15) d_UN_reserveFor_15 rfl ?_
  rw [f_UN_reserveFor] at k
  exact k
def f_UN_store (h : ev_H) (u : Nat) : ev_H := (sI (sI (sI (sI h 1 u 8 0) 1 u 9 (-1)) 1 u 12 (-1)) 1 u 13 0)
theorem c_UN_store {E : ev_E} {P : Option ev_V ⊕ Nat → ev_H → Prop} {h : ev_H} {u : Nat} (k : P (.inl none) (f_UN_store h u)) : Ev E M_UN_store 0 [(0, vR 1 u)] [] h P := by
  refine Ev_aload_n (pc := 0) d_UN_store_0 rfl ?_
  refine Ev_iconst (v := 0) (pc := 1) d_UN_store_1 (by decide) ?_
  refine Ev_putI (pc := 2) d_UN_store_2 rfl rfl rfl fl_UN_9 rfl ?_
  refine Ev_aload_n (pc := 5) d_UN_store_5 rfl ?_
  refine Ev_iconst (v := -1) (pc := 6) d_UN_store_6 (by decide) ?_
  refine Ev_putI (pc := 7) d_UN_store_7 rfl rfl rfl fl_UN_15 rfl ?_
  refine Ev_aload_n (pc := 10) d_UN_store_10 rfl ?_
  refine Ev_iconst (v := -1) (pc := 11) d_UN_store_11 (by decide) ?_
  refine Ev_putI (pc := 12) d_UN_store_12 rfl rfl rfl fl_UN_18 rfl ?_
  refine Ev_aload_n (pc := 15) d_UN_store_15 rfl ?_
  refine Ev_iconst (v := 0) (pc := 16) d_UN_store_16 (by decide) ?_
  refine Ev_putI (pc := 17) d_UN_store_17 rfl rfl rfl fl_UN_48 rfl ?_
  refine Ev_return (pc := 20) d_UN_store_20 rfl ?_
  rw [f_UN_store] at k
  exact k
def f_UN_endReservationWhenOver (h : ev_H) (u : Nat) (x1 : Int32) : ev_H := (if (gI h 1 u 8) = 1 then (if x1 < (gI h 1 u 10) then h else (f_UN_store h u)) else h)
theorem c_UN_endReservationWhenOver {E : ev_E} {P : Option ev_V ⊕ Nat → ev_H → Prop} {h : ev_H} {u : Nat} {x1 : Int32} (k : P (.inl none) (f_UN_endReservationWhenOver h u x1)) : Ev E M_UN_endReservationWhenOver 0 [(0, vR 1 u), (1, vI x1)] [] h P := by
  refine Ev_aload_n (pc := 0) d_UN_endReservationWhenOver_0 rfl ?_
  refine Ev_getI (pc := 1) d_UN_endReservationWhenOver_1 rfl rfl rfl fl_UN_9 ?_
  refine Ev_iconst (v := 1) (pc := 4) d_UN_endReservationWhenOver_4 (by decide) ?_
  refine Ev_icmp_ne (tgt := 20) (pc := 5) d_UN_endReservationWhenOver_5 rfl (fun q1 => ?_) (fun q1 => ?_)
  · refine Ev_return (pc := 20) d_UN_endReservationWhenOver_20 rfl ?_
    rw [f_UN_endReservationWhenOver, if_neg q1] at k
    exact k
  · refine Ev_iload_n (pc := 8) d_UN_endReservationWhenOver_8 rfl ?_
    refine Ev_aload_n (pc := 9) d_UN_endReservationWhenOver_9 rfl ?_
    refine Ev_getI (pc := 10) d_UN_endReservationWhenOver_10 rfl rfl rfl fl_UN_42 ?_
    refine Ev_icmp_lt (tgt := 20) (pc := 13) d_UN_endReservationWhenOver_13 rfl (fun q2 => ?_) (fun q2 => ?_)
    · refine Ev_return (pc := 20) d_UN_endReservationWhenOver_20 rfl ?_
      rw [f_UN_endReservationWhenOver, if_pos q1, if_pos q2] at k
      exact k
    · refine Ev_aload_n (pc := 16) d_UN_endReservationWhenOver_16 rfl ?_
      refine Ev_callV (M' := M_UN_store) (as := []) (st := []) (a := 1) (i := u) (pc := 17) d_UN_endReservationWhenOver_17 rfl rfl rfl rfl rfl rfl rfl v_UN_store lk_UN_45 rfl rfl (c_UN_store  ?_)
      refine Ev_return (pc := 20) d_UN_endReservationWhenOver_20 rfl ?_
      rw [f_UN_endReservationWhenOver, if_pos q1, if_neg q2] at k
      exact k
def f_UN_issueTo (h : ev_H) (u : Nat) (x1 : Int32) (x2 : Int32) (x3 : Int32) (x4 : Int32) : ev_H := (sI (sI (sI (sI (sI h 1 u 8 2) 1 u 9 x1) 1 u 11 x2) 1 u 12 x3) 1 u 13 x4)
theorem c_UN_issueTo {E : ev_E} {P : Option ev_V ⊕ Nat → ev_H → Prop} {h : ev_H} {u : Nat} {x1 : Int32} {x2 : Int32} {x3 : Int32} {x4 : Int32} (k : P (.inl none) (f_UN_issueTo h u x1 x2 x3 x4)) : Ev E M_UN_issueTo 0 [(0, vR 1 u), (1, vI x1), (2, vI x2), (3, vI x3), (4, vI x4)] [] h P := by
  refine Ev_aload_n (pc := 0) d_UN_issueTo_0 rfl ?_
  refine Ev_iconst (v := 2) (pc := 1) d_UN_issueTo_1 (by decide) ?_
  refine Ev_putI (pc := 2) d_UN_issueTo_2 rfl rfl rfl fl_UN_9 rfl ?_
  refine Ev_aload_n (pc := 5) d_UN_issueTo_5 rfl ?_
  refine Ev_iload_n (pc := 6) d_UN_issueTo_6 rfl ?_
  refine Ev_putI (pc := 7) d_UN_issueTo_7 rfl rfl rfl fl_UN_15 rfl ?_
  refine Ev_aload_n (pc := 10) d_UN_issueTo_10 rfl ?_
  refine Ev_iload_n (pc := 11) d_UN_issueTo_11 rfl ?_
  refine Ev_putI (pc := 12) d_UN_issueTo_12 rfl rfl rfl fl_UN_51 rfl ?_
  refine Ev_aload_n (pc := 15) d_UN_issueTo_15 rfl ?_
  refine Ev_iload_n (pc := 16) d_UN_issueTo_16 rfl ?_
  refine Ev_putI (pc := 17) d_UN_issueTo_17 rfl rfl rfl fl_UN_18 rfl ?_
  refine Ev_aload_n (pc := 20) d_UN_issueTo_20 rfl ?_
  refine Ev_iload (pc := 21) d_UN_issueTo_21 rfl ?_
  refine Ev_putI (pc := 23) d_UN_issueTo_23 rfl rfl rfl fl_UN_48 rfl ?_
  refine Ev_return (pc := 26) d_UN_issueTo_26 rfl ?_
  rw [f_UN_issueTo] at k
  exact k
def m_UN_throwAway_13 (h : ev_H) (u : Nat) (x1 : Int32) : ev_H := (if (gI h 1 u 8) = 1 then (sI h 1 u 9 (-1)) else h)
def f_UN_throwAway_13 (h : ev_H) (u : Nat) (x1 : Int32) : ev_H := (sI (sI (m_UN_throwAway_13 h u x1) 1 u 8 4) 1 u 14 x1)
theorem c_UN_throwAway_13 {E : ev_E} {P : Option ev_V ⊕ Nat → ev_H → Prop} {h : ev_H} {u : Nat} {x1 : Int32} (k : P (.inl none) (f_UN_throwAway_13 h u x1)) : Ev E M_UN_throwAway 13 [(0, vR 1 u), (1, vI x1)] [] (m_UN_throwAway_13 h u x1) P := by
  refine Ev_aload_n (pc := 13) d_UN_throwAway_13 rfl ?_
  refine Ev_iconst (v := 4) (pc := 14) d_UN_throwAway_14 (by decide) ?_
  refine Ev_putI (pc := 15) d_UN_throwAway_15 rfl rfl rfl fl_UN_9 rfl ?_
  refine Ev_aload_n (pc := 18) d_UN_throwAway_18 rfl ?_
  refine Ev_iload_n (pc := 19) d_UN_throwAway_19 rfl ?_
  refine Ev_putI (pc := 20) d_UN_throwAway_20 rfl rfl rfl fl_UN_54 rfl ?_
  refine Ev_return (pc := 23) d_UN_throwAway_23 rfl ?_
  rw [f_UN_throwAway_13] at k
  exact k
def f_UN_throwAway (h : ev_H) (u : Nat) (x1 : Int32) : ev_H := f_UN_throwAway_13 h u x1
theorem c_UN_throwAway {E : ev_E} {P : Option ev_V ⊕ Nat → ev_H → Prop} {h : ev_H} {u : Nat} {x1 : Int32} (k : P (.inl none) (f_UN_throwAway h u x1)) : Ev E M_UN_throwAway 0 [(0, vR 1 u), (1, vI x1)] [] h P := by
  refine Ev_aload_n (pc := 0) d_UN_throwAway_0 rfl ?_
  refine Ev_getI (pc := 1) d_UN_throwAway_1 rfl rfl rfl fl_UN_9 ?_
  refine Ev_iconst (v := 1) (pc := 4) d_UN_throwAway_4 (by decide) ?_
  refine Ev_icmp_ne (tgt := 13) (pc := 5) d_UN_throwAway_5 rfl (fun q1 => ?_) (fun q1 => ?_)
  · rw [f_UN_throwAway] at k
    have j := c_UN_throwAway_13 (E := E) (P := P) (h := h) (u := u) (x1 := x1)  k
    rw [m_UN_throwAway_13, if_neg q1] at j
    exact j
  · refine Ev_aload_n (pc := 8) d_UN_throwAway_8 rfl ?_
    refine Ev_iconst (v := -1) (pc := 9) d_UN_throwAway_9 (by decide) ?_
    refine Ev_putI (pc := 10) d_UN_throwAway_10 rfl rfl rfl fl_UN_15 rfl ?_
    rw [f_UN_throwAway] at k
    have j := c_UN_throwAway_13 (E := E) (P := P) (h := h) (u := u) (x1 := x1)  k
    rw [m_UN_throwAway_13, if_pos q1] at j
    exact j
def f_UN_init (h : ev_H) (u : Nat) (x1 : Int32) (x2 : Int32) (x3 : Int32) (x4 : Int32) (x5 : Int32) : ev_H := (sI (sI (sI (sI (sI (sI (sI (sI h 1 u 8 0) 1 u 9 (-1)) 1 u 12 (-1)) 1 u 0 x1) 1 u 1 x2) 1 u 2 x3) 1 u 3 x4) 1 u 4 x5)
theorem c_UN_init {E : ev_E} {P : Option ev_V ⊕ Nat → ev_H → Prop} {h : ev_H} {u : Nat} {x1 : Int32} {x2 : Int32} {x3 : Int32} {x4 : Int32} {x5 : Int32} (k : P (.inl none) (f_UN_init h u x1 x2 x3 x4 x5)) : Ev E M_UN_init 0 [(0, vR 1 u), (1, vI x1), (2, vI x2), (3, vI x3), (4, vI x4), (5, vI x5)] [] h P := by
  refine Ev_aload_n (pc := 0) d_UN_init_0 rfl ?_
  refine Ev_objInit (pc := 1) d_UN_init_1 lk_UN_3 w_oi w_oc rfl ?_
  refine Ev_aload_n (pc := 4) d_UN_init_4 rfl ?_
  refine Ev_iconst (v := 0) (pc := 5) d_UN_init_5 (by decide) ?_
  refine Ev_putI (pc := 6) d_UN_init_6 rfl rfl rfl fl_UN_9 rfl ?_
  refine Ev_aload_n (pc := 9) d_UN_init_9 rfl ?_
  refine Ev_iconst (v := -1) (pc := 10) d_UN_init_10 (by decide) ?_
  refine Ev_putI (pc := 11) d_UN_init_11 rfl rfl rfl fl_UN_15 rfl ?_
  refine Ev_aload_n (pc := 14) d_UN_init_14 rfl ?_
  refine Ev_iconst (v := -1) (pc := 15) d_UN_init_15 (by decide) ?_
  refine Ev_putI (pc := 16) d_UN_init_16 rfl rfl rfl fl_UN_18 rfl ?_
  refine Ev_aload_n (pc := 19) d_UN_init_19 rfl ?_
  refine Ev_iload_n (pc := 20) d_UN_init_20 rfl ?_
  refine Ev_putIF (pc := 21) d_UN_init_21 rfl rfl rfl fl_UN_21 rfl rfl rfl ?_
  refine Ev_aload_n (pc := 24) d_UN_init_24 rfl ?_
  refine Ev_iload_n (pc := 25) d_UN_init_25 rfl ?_
  refine Ev_putIF (pc := 26) d_UN_init_26 rfl rfl rfl fl_UN_24 rfl rfl rfl ?_
  refine Ev_aload_n (pc := 29) d_UN_init_29 rfl ?_
  refine Ev_iload_n (pc := 30) d_UN_init_30 rfl ?_
  refine Ev_putIF (pc := 31) d_UN_init_31 rfl rfl rfl fl_UN_27 rfl rfl rfl ?_
  refine Ev_aload_n (pc := 34) d_UN_init_34 rfl ?_
  refine Ev_iload (pc := 35) d_UN_init_35 rfl ?_
  refine Ev_putIF (pc := 37) d_UN_init_37 rfl rfl rfl fl_UN_30 rfl rfl rfl ?_
  refine Ev_aload_n (pc := 40) d_UN_init_40 rfl ?_
  refine Ev_iload (pc := 41) d_UN_init_41 rfl ?_
  refine Ev_putIF (pc := 43) d_UN_init_43 rfl rfl rfl fl_UN_33 rfl rfl rfl ?_
  refine Ev_return (pc := 46) d_UN_init_46 rfl ?_
  rw [f_UN_init] at k
  exact k
def m_PA_takeSample_33 (h : ev_H) (p : Nat) (x1 : Int32) (x2 : Int32) (x3 : Int32) : ev_H := (if (gI h 2 p 1) = (-1) then h else (if (gI h 2 p 1) = x1 then (if (gI h 2 p 2) = x2 then (sI h 2 p 0 1) else (sI h 2 p 0 2)) else (sI h 2 p 0 2)))
def f_PA_takeSample_33 (h : ev_H) (p : Nat) (x1 : Int32) (x2 : Int32) (x3 : Int32) : ev_H := (sI (sI (sI (m_PA_takeSample_33 h p x1 x2 x3) 2 p 1 x1) 2 p 2 x2) 2 p 3 x3)
theorem c_PA_takeSample_33 {E : ev_E} {P : Option ev_V ⊕ Nat → ev_H → Prop} {h : ev_H} {p : Nat} {x1 : Int32} {x2 : Int32} {x3 : Int32} (k : P (.inl none) (f_PA_takeSample_33 h p x1 x2 x3)) : Ev E M_PA_takeSample 33 [(0, vR 2 p), (1, vI x1), (2, vI x2), (3, vI x3)] [] (m_PA_takeSample_33 h p x1 x2 x3) P := by
  refine Ev_aload_n (pc := 33) d_PA_takeSample_33 rfl ?_
  refine Ev_iload_n (pc := 34) d_PA_takeSample_34 rfl ?_
  refine Ev_putI (pc := 35) d_PA_takeSample_35 rfl rfl rfl fl_PA_15 rfl ?_
  refine Ev_aload_n (pc := 38) d_PA_takeSample_38 rfl ?_
  refine Ev_iload_n (pc := 39) d_PA_takeSample_39 rfl ?_
  refine Ev_putI (pc := 40) d_PA_takeSample_40 rfl rfl rfl fl_PA_18 rfl ?_
  refine Ev_aload_n (pc := 43) d_PA_takeSample_43 rfl ?_
  refine Ev_iload_n (pc := 44) d_PA_takeSample_44 rfl ?_
  refine Ev_putI (pc := 45) d_PA_takeSample_45 rfl rfl rfl fl_PA_25 rfl ?_
  refine Ev_return (pc := 48) d_PA_takeSample_48 rfl ?_
  rw [f_PA_takeSample_33] at k
  exact k
def f_PA_takeSample (h : ev_H) (p : Nat) (x1 : Int32) (x2 : Int32) (x3 : Int32) : ev_H := f_PA_takeSample_33 h p x1 x2 x3
theorem c_PA_takeSample {E : ev_E} {P : Option ev_V ⊕ Nat → ev_H → Prop} {h : ev_H} {p : Nat} {x1 : Int32} {x2 : Int32} {x3 : Int32} (k : P (.inl none) (f_PA_takeSample h p x1 x2 x3)) : Ev E M_PA_takeSample 0 [(0, vR 2 p), (1, vI x1), (2, vI x2), (3, vI x3)] [] h P := by
  refine Ev_aload_n (pc := 0) d_PA_takeSample_0 rfl ?_
  refine Ev_getI (pc := 1) d_PA_takeSample_1 rfl rfl rfl fl_PA_15 ?_
  refine Ev_iconst (v := -1) (pc := 4) d_PA_takeSample_4 (by decide) ?_
  refine Ev_icmp_eq (tgt := 33) (pc := 5) d_PA_takeSample_5 rfl (fun q1 => ?_) (fun q1 => ?_)
  · rw [f_PA_takeSample] at k
    have j := c_PA_takeSample_33 (E := E) (P := P) (h := h) (p := p) (x1 := x1) (x2 := x2) (x3 := x3)  k
    rw [m_PA_takeSample_33, if_pos q1] at j
    exact j
  · refine Ev_aload_n (pc := 8) d_PA_takeSample_8 rfl ?_
    refine Ev_aload_n (pc := 9) d_PA_takeSample_9 rfl ?_
    refine Ev_getI (pc := 10) d_PA_takeSample_10 rfl rfl rfl fl_PA_15 ?_
    refine Ev_iload_n (pc := 13) d_PA_takeSample_13 rfl ?_
    refine Ev_icmp_ne (tgt := 29) (pc := 14) d_PA_takeSample_14 rfl (fun q4 => ?_) (fun q4 => ?_)
    · refine Ev_iconst (v := 2) (pc := 29) d_PA_takeSample_29 (by decide) ?_
      refine Ev_putI (pc := 30) d_PA_takeSample_30 rfl rfl rfl fl_PA_9 rfl ?_
      rw [f_PA_takeSample] at k
      have j := c_PA_takeSample_33 (E := E) (P := P) (h := h) (p := p) (x1 := x1) (x2 := x2) (x3 := x3)  k
      rw [m_PA_takeSample_33, if_neg q1, if_neg q4] at j
      exact j
    · refine Ev_aload_n (pc := 17) d_PA_takeSample_17 rfl ?_
      refine Ev_getI (pc := 18) d_PA_takeSample_18 rfl rfl rfl fl_PA_18 ?_
      refine Ev_iload_n (pc := 21) d_PA_takeSample_21 rfl ?_
      refine Ev_icmp_ne (tgt := 29) (pc := 22) d_PA_takeSample_22 rfl (fun q5 => ?_) (fun q5 => ?_)
      · refine Ev_iconst (v := 2) (pc := 29) d_PA_takeSample_29 (by decide) ?_
        refine Ev_putI (pc := 30) d_PA_takeSample_30 rfl rfl rfl fl_PA_9 rfl ?_
        rw [f_PA_takeSample] at k
        have j := c_PA_takeSample_33 (E := E) (P := P) (h := h) (p := p) (x1 := x1) (x2 := x2) (x3 := x3)  k
        rw [m_PA_takeSample_33, if_neg q1, if_pos q4, if_neg q5] at j
        exact j
      · refine Ev_iconst (v := 1) (pc := 25) d_PA_takeSample_25 (by decide) ?_
        refine Ev_goto (tgt := 30) (pc := 26) d_PA_takeSample_26 rfl ?_
        refine Ev_putI (pc := 30) d_PA_takeSample_30 rfl rfl rfl fl_PA_9 rfl ?_
        rw [f_PA_takeSample] at k
        have j := c_PA_takeSample_33 (E := E) (P := P) (h := h) (p := p) (x1 := x1) (x2 := x2) (x3 := x3)  k
        rw [m_PA_takeSample_33, if_neg q1, if_pos q4, if_pos q5] at j
        exact j
def f_PA_confirm (h : ev_H) (p : Nat) (x1 : Int32) (x2 : Int32) : ev_H := (sI (sI (sI h 2 p 0 1) 2 p 1 x1) 2 p 2 x2)
theorem c_PA_confirm {E : ev_E} {P : Option ev_V ⊕ Nat → ev_H → Prop} {h : ev_H} {p : Nat} {x1 : Int32} {x2 : Int32} (k : P (.inl none) (f_PA_confirm h p x1 x2)) : Ev E M_PA_confirm 0 [(0, vR 2 p), (1, vI x1), (2, vI x2)] [] h P := by
  refine Ev_aload_n (pc := 0) d_PA_confirm_0 rfl ?_
  refine Ev_iconst (v := 1) (pc := 1) d_PA_confirm_1 (by decide) ?_
  refine Ev_putI (pc := 2) d_PA_confirm_2 rfl rfl rfl fl_PA_9 rfl ?_
  refine Ev_aload_n (pc := 5) d_PA_confirm_5 rfl ?_
  refine Ev_iload_n (pc := 6) d_PA_confirm_6 rfl ?_
  refine Ev_putI (pc := 7) d_PA_confirm_7 rfl rfl rfl fl_PA_15 rfl ?_
  refine Ev_aload_n (pc := 10) d_PA_confirm_10 rfl ?_
  refine Ev_iload_n (pc := 11) d_PA_confirm_11 rfl ?_
  refine Ev_putI (pc := 12) d_PA_confirm_12 rfl rfl rfl fl_PA_18 rfl ?_
  refine Ev_return (pc := 15) d_PA_confirm_15 rfl ?_
  rw [f_PA_confirm] at k
  exact k
def f_PA_hasFreshSample (h : ev_H) (p : Nat) (x1 : Int32) : Int32 := (if (gI h 2 p 1) = (-1) then 0 else (if 4320 ≤ (x1 - (gI h 2 p 3)) then 0 else 1))
theorem c_PA_hasFreshSample {E : ev_E} {P : Option ev_V ⊕ Nat → ev_H → Prop} {h : ev_H} {p : Nat} {x1 : Int32} (k : P (.inl (some (vI (f_PA_hasFreshSample h p x1)))) h) : Ev E M_PA_hasFreshSample 0 [(0, vR 2 p), (1, vI x1)] [] h P := by
  refine Ev_aload_n (pc := 0) d_PA_hasFreshSample_0 rfl ?_
  refine Ev_getI (pc := 1) d_PA_hasFreshSample_1 rfl rfl rfl fl_PA_15 ?_
  refine Ev_iconst (v := -1) (pc := 4) d_PA_hasFreshSample_4 (by decide) ?_
  refine Ev_icmp_eq (tgt := 24) (pc := 5) d_PA_hasFreshSample_5 rfl (fun q1 => ?_) (fun q1 => ?_)
  · refine Ev_iconst (v := 0) (pc := 24) d_PA_hasFreshSample_24 (by decide) ?_
    refine Ev_ireturn (pc := 25) d_PA_hasFreshSample_25 rfl rfl ?_
    rw [f_PA_hasFreshSample, if_pos q1] at k
    exact k
  · refine Ev_iload_n (pc := 8) d_PA_hasFreshSample_8 rfl ?_
    refine Ev_aload_n (pc := 9) d_PA_hasFreshSample_9 rfl ?_
    refine Ev_getI (pc := 10) d_PA_hasFreshSample_10 rfl rfl rfl fl_PA_25 ?_
    refine Ev_isub (pc := 13) d_PA_hasFreshSample_13 ?_
    refine Ev_sipush (v := 4320) (pc := 14) d_PA_hasFreshSample_14 (by decide) ?_
    refine Ev_icmp_ge (tgt := 24) (pc := 17) d_PA_hasFreshSample_17 rfl (fun q2 => ?_) (fun q2 => ?_)
    · refine Ev_iconst (v := 0) (pc := 24) d_PA_hasFreshSample_24 (by decide) ?_
      refine Ev_ireturn (pc := 25) d_PA_hasFreshSample_25 rfl rfl ?_
      rw [f_PA_hasFreshSample, if_neg q1, if_pos q2] at k
      exact k
    · refine Ev_iconst (v := 1) (pc := 20) d_PA_hasFreshSample_20 (by decide) ?_
      refine Ev_goto (tgt := 25) (pc := 21) d_PA_hasFreshSample_21 rfl ?_
      refine Ev_ireturn (pc := 25) d_PA_hasFreshSample_25 rfl rfl ?_
      rw [f_PA_hasFreshSample, if_neg q1, if_neg q2] at k
      exact k
theorem b_f_PA_hasFreshSample {h : ev_H} {p : Nat} {x1 : Int32} : f_PA_hasFreshSample h p x1 = 0 ∨ f_PA_hasFreshSample h p x1 = 1 := by
  unfold f_PA_hasFreshSample
  first | exact Or.inl rfl | exact Or.inr rfl | (repeat' (split)) <;> (first | exact Or.inl rfl | exact Or.inr rfl)
def f_PA_noteCrossmatch (h : ev_H) (p : Nat) (x1 : Int32) (x2 : Int32) : ev_H := (sI h 3 p x1.toNatClampNeg x2)
theorem c_PA_noteCrossmatch {E : ev_E} {P : Option ev_V ⊕ Nat → ev_H → Prop} {h : ev_H} {p : Nat} {x1 : Int32} {x2 : Int32} (n0 : gR h 2 p 6 = vR 3 p) (n1 : ¬ x1 < 0) (n2 : x1.toNatClampNeg < 48) (k : P (.inl none) (f_PA_noteCrossmatch h p x1 x2)) : Ev E M_PA_noteCrossmatch 0 [(0, vR 2 p), (1, vI x1), (2, vI x2)] [] h P := by
  refine Ev_aload_n (pc := 0) d_PA_noteCrossmatch_0 rfl ?_
  refine Ev_getR (pc := 1) d_PA_noteCrossmatch_1 rfl rfl rfl fl_PA_21 n0 ?_
  refine Ev_iload_n (pc := 4) d_PA_noteCrossmatch_4 rfl ?_
  refine Ev_iload_n (pc := 5) d_PA_noteCrossmatch_5 rfl ?_
  refine Ev_iast (pc := 6) d_PA_noteCrossmatch_6 rfl rfl n1 n2 ?_
  refine Ev_return (pc := 7) d_PA_noteCrossmatch_7 rfl ?_
  rw [f_PA_noteCrossmatch] at k
  exact k
def f_PA_hasValidCrossmatch (h : ev_H) (p : Nat) (x1 : Int32) (x2 : Int32) : Int32 := (if (gI h 3 p x1.toNatClampNeg) = (-1) then 0 else (if 4320 ≤ (x2 - (gI h 3 p x1.toNatClampNeg)) then 0 else 1))
theorem c_PA_hasValidCrossmatch {E : ev_E} {P : Option ev_V ⊕ Nat → ev_H → Prop} {h : ev_H} {p : Nat} {x1 : Int32} {x2 : Int32} (n0 : gR h 2 p 6 = vR 3 p) (n1 : ¬ x1 < 0) (n2 : x1.toNatClampNeg < 48) (k : P (.inl (some (vI (f_PA_hasValidCrossmatch h p x1 x2)))) h) : Ev E M_PA_hasValidCrossmatch 0 [(0, vR 2 p), (1, vI x1), (2, vI x2)] [] h P := by
  refine Ev_aload_n (pc := 0) d_PA_hasValidCrossmatch_0 rfl ?_
  refine Ev_getR (pc := 1) d_PA_hasValidCrossmatch_1 rfl rfl rfl fl_PA_21 n0 ?_
  refine Ev_iload_n (pc := 4) d_PA_hasValidCrossmatch_4 rfl ?_
  refine Ev_iald (pc := 5) d_PA_hasValidCrossmatch_5 rfl rfl n1 n2 ?_
  refine Ev_iconst (v := -1) (pc := 6) d_PA_hasValidCrossmatch_6 (by decide) ?_
  refine Ev_icmp_eq (tgt := 28) (pc := 7) d_PA_hasValidCrossmatch_7 rfl (fun q1 => ?_) (fun q1 => ?_)
  · refine Ev_iconst (v := 0) (pc := 28) d_PA_hasValidCrossmatch_28 (by decide) ?_
    refine Ev_ireturn (pc := 29) d_PA_hasValidCrossmatch_29 rfl rfl ?_
    rw [f_PA_hasValidCrossmatch, if_pos q1] at k
    exact k
  · refine Ev_iload_n (pc := 10) d_PA_hasValidCrossmatch_10 rfl ?_
    refine Ev_aload_n (pc := 11) d_PA_hasValidCrossmatch_11 rfl ?_
    refine Ev_getR (pc := 12) d_PA_hasValidCrossmatch_12 rfl rfl rfl fl_PA_21 n0 ?_
    refine Ev_iload_n (pc := 15) d_PA_hasValidCrossmatch_15 rfl ?_
    refine Ev_iald (pc := 16) d_PA_hasValidCrossmatch_16 rfl rfl n1 n2 ?_
    refine Ev_isub (pc := 17) d_PA_hasValidCrossmatch_17 ?_
    refine Ev_sipush (v := 4320) (pc := 18) d_PA_hasValidCrossmatch_18 (by decide) ?_
    refine Ev_icmp_ge (tgt := 28) (pc := 21) d_PA_hasValidCrossmatch_21 rfl (fun q2 => ?_) (fun q2 => ?_)
    · refine Ev_iconst (v := 0) (pc := 28) d_PA_hasValidCrossmatch_28 (by decide) ?_
      refine Ev_ireturn (pc := 29) d_PA_hasValidCrossmatch_29 rfl rfl ?_
      rw [f_PA_hasValidCrossmatch, if_neg q1, if_pos q2] at k
      exact k
    · refine Ev_iconst (v := 1) (pc := 24) d_PA_hasValidCrossmatch_24 (by decide) ?_
      refine Ev_goto (tgt := 29) (pc := 25) d_PA_hasValidCrossmatch_25 rfl ?_
      refine Ev_ireturn (pc := 29) d_PA_hasValidCrossmatch_29 rfl rfl ?_
      rw [f_PA_hasValidCrossmatch, if_neg q1, if_neg q2] at k
      exact k
theorem b_f_PA_hasValidCrossmatch {h : ev_H} {p : Nat} {x1 : Int32} {x2 : Int32} : f_PA_hasValidCrossmatch h p x1 x2 = 0 ∨ f_PA_hasValidCrossmatch h p x1 x2 = 1 := by
  unfold f_PA_hasValidCrossmatch
  first | exact Or.inl rfl | exact Or.inr rfl | (repeat' (split)) <;> (first | exact Or.inl rfl | exact Or.inr rfl)
def f_PA_groupOr (h : ev_H) (p : Nat) (x1 : Int32) : Int32 := (if (gI h 2 p 0) = 1 then (gI h 2 p 1) else x1)
theorem c_PA_groupOr {E : ev_E} {P : Option ev_V ⊕ Nat → ev_H → Prop} {h : ev_H} {p : Nat} {x1 : Int32} (k : P (.inl (some (vI (f_PA_groupOr h p x1)))) h) : Ev E M_PA_groupOr 0 [(0, vR 2 p), (1, vI x1)] [] h P := by
  refine Ev_aload_n (pc := 0) d_PA_groupOr_0 rfl ?_
  refine Ev_getI (pc := 1) d_PA_groupOr_1 rfl rfl rfl fl_PA_9 ?_
  refine Ev_iconst (v := 1) (pc := 4) d_PA_groupOr_4 (by decide) ?_
  refine Ev_icmp_ne (tgt := 15) (pc := 5) d_PA_groupOr_5 rfl (fun q1 => ?_) (fun q1 => ?_)
  · refine Ev_iload_n (pc := 15) d_PA_groupOr_15 rfl ?_
    refine Ev_ireturn (pc := 16) d_PA_groupOr_16 rfl rfl ?_
    rw [f_PA_groupOr, if_neg q1] at k
    exact k
  · refine Ev_aload_n (pc := 8) d_PA_groupOr_8 rfl ?_
    refine Ev_getI (pc := 9) d_PA_groupOr_9 rfl rfl rfl fl_PA_15 ?_
    refine Ev_goto (tgt := 16) (pc := 12) d_PA_groupOr_12 rfl ?_
    refine Ev_ireturn (pc := 16) d_PA_groupOr_16 rfl rfl ?_
    rw [f_PA_groupOr, if_pos q1] at k
    exact k
def f_PA_isConfirmedWithRhesus (h : ev_H) (p : Nat) : Int32 := (if (gI h 2 p 0) = 1 then (if (gI h 2 p 2) = 1 then 1 else 0) else 0)
theorem c_PA_isConfirmedWithRhesus {E : ev_E} {P : Option ev_V ⊕ Nat → ev_H → Prop} {h : ev_H} {p : Nat} (k : P (.inl (some (vI (f_PA_isConfirmedWithRhesus h p)))) h) : Ev E M_PA_isConfirmedWithRhesus 0 [(0, vR 2 p)] [] h P := by
  refine Ev_aload_n (pc := 0) d_PA_isConfirmedWithRhesus_0 rfl ?_
  refine Ev_getI (pc := 1) d_PA_isConfirmedWithRhesus_1 rfl rfl rfl fl_PA_9 ?_
  refine Ev_iconst (v := 1) (pc := 4) d_PA_isConfirmedWithRhesus_4 (by decide) ?_
  refine Ev_icmp_ne (tgt := 20) (pc := 5) d_PA_isConfirmedWithRhesus_5 rfl (fun q1 => ?_) (fun q1 => ?_)
  · refine Ev_iconst (v := 0) (pc := 20) d_PA_isConfirmedWithRhesus_20 (by decide) ?_
    refine Ev_ireturn (pc := 21) d_PA_isConfirmedWithRhesus_21 rfl rfl ?_
    rw [f_PA_isConfirmedWithRhesus, if_neg q1] at k
    exact k
  · refine Ev_aload_n (pc := 8) d_PA_isConfirmedWithRhesus_8 rfl ?_
    refine Ev_getI (pc := 9) d_PA_isConfirmedWithRhesus_9 rfl rfl rfl fl_PA_18 ?_
    refine Ev_iconst (v := 1) (pc := 12) d_PA_isConfirmedWithRhesus_12 (by decide) ?_
    refine Ev_icmp_ne (tgt := 20) (pc := 13) d_PA_isConfirmedWithRhesus_13 rfl (fun q2 => ?_) (fun q2 => ?_)
    · refine Ev_iconst (v := 0) (pc := 20) d_PA_isConfirmedWithRhesus_20 (by decide) ?_
      refine Ev_ireturn (pc := 21) d_PA_isConfirmedWithRhesus_21 rfl rfl ?_
      rw [f_PA_isConfirmedWithRhesus, if_pos q1, if_neg q2] at k
      exact k
    · refine Ev_iconst (v := 1) (pc := 16) d_PA_isConfirmedWithRhesus_16 (by decide) ?_
      refine Ev_goto (tgt := 21) (pc := 17) d_PA_isConfirmedWithRhesus_17 rfl ?_
      refine Ev_ireturn (pc := 21) d_PA_isConfirmedWithRhesus_21 rfl rfl ?_
      rw [f_PA_isConfirmedWithRhesus, if_pos q1, if_pos q2] at k
      exact k
theorem b_f_PA_isConfirmedWithRhesus {h : ev_H} {p : Nat} : f_PA_isConfirmedWithRhesus h p = 0 ∨ f_PA_isConfirmedWithRhesus h p = 1 := by
  unfold f_PA_isConfirmedWithRhesus
  first | exact Or.inl rfl | exact Or.inr rfl | (repeat' (split)) <;> (first | exact Or.inl rfl | exact Or.inr rfl)
def f_RU_groupFits (h : ev_H) (p : Nat) (u : Nat) : Int32 := (if (gI h 1 u 0) = 0 then (if ((gI h 1 u 1) &&& ((f_PA_groupOr h p 0) ^^^ (-1))) = 0 then 1 else 0) else (if ((f_PA_groupOr h p 3) &&& ((gI h 1 u 1) ^^^ (-1))) = 0 then 1 else 0))
theorem c_RU_groupFits {E : ev_E} {P : Option ev_V ⊕ Nat → ev_H → Prop} {h : ev_H} {p : Nat} {u : Nat} (k : P (.inl (some (vI (f_RU_groupFits h p u)))) h) : Ev E M_RU_groupFits 0 [(0, vR 2 p), (1, vR 1 u)] [] h P := by
  refine Ev_aload_n (pc := 0) d_RU_groupFits_0 rfl ?_
  refine Ev_getI (pc := 1) d_RU_groupFits_1 rfl rfl rfl fl_RU_9 ?_
  refine Ev_if_ne (tgt := 28) (pc := 4) d_RU_groupFits_4 rfl (fun q1 => ?_) (fun q1 => ?_)
  · refine Ev_aload_n (pc := 28) d_RU_groupFits_28 rfl ?_
    refine Ev_iconst (v := 3) (pc := 29) d_RU_groupFits_29 (by decide) ?_
    refine Ev_callV (M' := M_PA_groupOr) (as := [vI 3]) (st := []) (a := 2) (i := p) (pc := 30) d_RU_groupFits_30 rfl rfl rfl rfl rfl rfl rfl v_PA_groupOr lk_RU_45 rfl rfl (c_PA_groupOr  ?_)
    refine Ev_aload_n (pc := 33) d_RU_groupFits_33 rfl ?_
    refine Ev_getI (pc := 34) d_RU_groupFits_34 rfl rfl rfl fl_RU_42 ?_
    refine Ev_iconst (v := -1) (pc := 37) d_RU_groupFits_37 (by decide) ?_
    refine Ev_ixor (pc := 38) d_RU_groupFits_38 ?_
    refine Ev_iand (pc := 39) d_RU_groupFits_39 ?_
    refine Ev_if_ne (tgt := 47) (pc := 40) d_RU_groupFits_40 rfl (fun q2 => ?_) (fun q2 => ?_)
    · refine Ev_iconst (v := 0) (pc := 47) d_RU_groupFits_47 (by decide) ?_
      refine Ev_ireturn (pc := 48) d_RU_groupFits_48 rfl rfl ?_
      rw [f_RU_groupFits, if_neg q1, if_neg q2] at k
      exact k
    · refine Ev_iconst (v := 1) (pc := 43) d_RU_groupFits_43 (by decide) ?_
      refine Ev_goto (tgt := 48) (pc := 44) d_RU_groupFits_44 rfl ?_
      refine Ev_ireturn (pc := 48) d_RU_groupFits_48 rfl rfl ?_
      rw [f_RU_groupFits, if_neg q1, if_pos q2] at k
      exact k
  · refine Ev_aload_n (pc := 7) d_RU_groupFits_7 rfl ?_
    refine Ev_getI (pc := 8) d_RU_groupFits_8 rfl rfl rfl fl_RU_42 ?_
    refine Ev_aload_n (pc := 11) d_RU_groupFits_11 rfl ?_
    refine Ev_iconst (v := 0) (pc := 12) d_RU_groupFits_12 (by decide) ?_
    refine Ev_callV (M' := M_PA_groupOr) (as := [vI 0]) (st := [vI (gI h 1 u 1)]) (a := 2) (i := p) (pc := 13) d_RU_groupFits_13 rfl rfl rfl rfl rfl rfl rfl v_PA_groupOr lk_RU_45 rfl rfl (c_PA_groupOr  ?_)
    refine Ev_iconst (v := -1) (pc := 16) d_RU_groupFits_16 (by decide) ?_
    refine Ev_ixor (pc := 17) d_RU_groupFits_17 ?_
    refine Ev_iand (pc := 18) d_RU_groupFits_18 ?_
    refine Ev_if_ne (tgt := 26) (pc := 19) d_RU_groupFits_19 rfl (fun q3 => ?_) (fun q3 => ?_)
    · refine Ev_iconst (v := 0) (pc := 26) d_RU_groupFits_26 (by decide) ?_
      refine Ev_ireturn (pc := 27) d_RU_groupFits_27 rfl rfl ?_
      rw [f_RU_groupFits, if_pos q1, if_neg q3] at k
      exact k
    · refine Ev_iconst (v := 1) (pc := 22) d_RU_groupFits_22 (by decide) ?_
      refine Ev_goto (tgt := 27) (pc := 23) d_RU_groupFits_23 rfl ?_
      refine Ev_ireturn (pc := 27) d_RU_groupFits_27 rfl rfl ?_
      rw [f_RU_groupFits, if_pos q1, if_pos q3] at k
      exact k
theorem b_f_RU_groupFits {h : ev_H} {p : Nat} {u : Nat} : f_RU_groupFits h p u = 0 ∨ f_RU_groupFits h p u = 1 := by
  unfold f_RU_groupFits
  first | exact Or.inl rfl | exact Or.inr rfl | (repeat' (split)) <;> (first | exact Or.inl rfl | exact Or.inr rfl)
def f_RU_reason (h : ev_H) (p : Nat) (u : Nat) : Int32 := (if (gI h 1 u 0) = 3 then 1 else (if (f_RU_groupFits h p u) = 0 then 2 else (if (gI h 1 u 0) = 0 then (if (gI h 1 u 2) = 1 then (if (f_PA_isConfirmedWithRhesus h p) = 0 then 3 else (if ((gI h 2 p 4) &&& ((gI h 1 u 6) ^^^ (-1))) = 0 then (if ((gI h 2 p 5) &&& ((gI h 1 u 7) ^^^ (-1))) = 0 then 0 else 5) else 4)) else (if ((gI h 2 p 4) &&& ((gI h 1 u 6) ^^^ (-1))) = 0 then (if ((gI h 2 p 5) &&& ((gI h 1 u 7) ^^^ (-1))) = 0 then 0 else 5) else 4)) else (if ((gI h 2 p 5) &&& ((gI h 1 u 7) ^^^ (-1))) = 0 then 0 else 5))))
theorem c_RU_reason {E : ev_E} {P : Option ev_V ⊕ Nat → ev_H → Prop} {h : ev_H} {p : Nat} {u : Nat} (k : P (.inl (some (vI (f_RU_reason h p u)))) h) : Ev E M_RU_reason 0 [(0, vR 2 p), (1, vR 1 u)] [] h P := by
  refine Ev_aload_n (pc := 0) d_RU_reason_0 rfl ?_
  refine Ev_getI (pc := 1) d_RU_reason_1 rfl rfl rfl fl_RU_9 ?_
  refine Ev_iconst (v := 3) (pc := 4) d_RU_reason_4 (by decide) ?_
  refine Ev_icmp_ne (tgt := 10) (pc := 5) d_RU_reason_5 rfl (fun q1 => ?_) (fun q1 => ?_)
  · refine Ev_aload_n (pc := 10) d_RU_reason_10 rfl ?_
    refine Ev_aload_n (pc := 11) d_RU_reason_11 rfl ?_
    refine Ev_callS (M' := M_RU_groupFits) (as := [vR 2 p, vR 1 u]) (st := []) (pc := 12) d_RU_reason_12 rfl rfl rfl s_RU_groupFits lk_RU_15 rfl rfl (c_RU_groupFits  ?_)
    refine Ev_if_ne (tgt := 20) (pc := 15) d_RU_reason_15 rfl (fun q2 => ?_) (fun q2 => ?_)
    · refine Ev_aload_n (pc := 20) d_RU_reason_20 rfl ?_
      refine Ev_getI (pc := 21) d_RU_reason_21 rfl rfl rfl fl_RU_9 ?_
      refine Ev_if_ne (tgt := 60) (pc := 24) d_RU_reason_24 rfl (fun q3 => ?_) (fun q3 => ?_)
      · refine Ev_aload_n (pc := 60) d_RU_reason_60 rfl ?_
        refine Ev_getI (pc := 61) d_RU_reason_61 rfl rfl rfl fl_RU_36 ?_
        refine Ev_aload_n (pc := 64) d_RU_reason_64 rfl ?_
        refine Ev_getI (pc := 65) d_RU_reason_65 rfl rfl rfl fl_RU_39 ?_
        refine Ev_iconst (v := -1) (pc := 68) d_RU_reason_68 (by decide) ?_
        refine Ev_ixor (pc := 69) d_RU_reason_69 ?_
        refine Ev_iand (pc := 70) d_RU_reason_70 ?_
        refine Ev_if_eq (tgt := 78) (pc := 71) d_RU_reason_71 rfl (fun q4 => ?_) (fun q4 => ?_)
        · refine Ev_iconst (v := 0) (pc := 78) d_RU_reason_78 (by decide) ?_
          refine Ev_ireturn (pc := 79) d_RU_reason_79 rfl rfl ?_
          rw [f_RU_reason, if_neg q1, if_neg q2, if_neg q3, if_pos q4] at k
          exact k
        · refine Ev_iconst (v := 5) (pc := 74) d_RU_reason_74 (by decide) ?_
          refine Ev_goto (tgt := 79) (pc := 75) d_RU_reason_75 rfl ?_
          refine Ev_ireturn (pc := 79) d_RU_reason_79 rfl rfl ?_
          rw [f_RU_reason, if_neg q1, if_neg q2, if_neg q3, if_neg q4] at k
          exact k
      · refine Ev_aload_n (pc := 27) d_RU_reason_27 rfl ?_
        refine Ev_getI (pc := 28) d_RU_reason_28 rfl rfl rfl fl_RU_21 ?_
        refine Ev_iconst (v := 1) (pc := 31) d_RU_reason_31 (by decide) ?_
        refine Ev_icmp_ne (tgt := 44) (pc := 32) d_RU_reason_32 rfl (fun q5 => ?_) (fun q5 => ?_)
        · refine Ev_aload_n (pc := 44) d_RU_reason_44 rfl ?_
          refine Ev_getI (pc := 45) d_RU_reason_45 rfl rfl rfl fl_RU_30 ?_
          refine Ev_aload_n (pc := 48) d_RU_reason_48 rfl ?_
          refine Ev_getI (pc := 49) d_RU_reason_49 rfl rfl rfl fl_RU_33 ?_
          refine Ev_iconst (v := -1) (pc := 52) d_RU_reason_52 (by decide) ?_
          refine Ev_ixor (pc := 53) d_RU_reason_53 ?_
          refine Ev_iand (pc := 54) d_RU_reason_54 ?_
          refine Ev_if_eq (tgt := 60) (pc := 55) d_RU_reason_55 rfl (fun q6 => ?_) (fun q6 => ?_)
          · refine Ev_aload_n (pc := 60) d_RU_reason_60 rfl ?_
            refine Ev_getI (pc := 61) d_RU_reason_61 rfl rfl rfl fl_RU_36 ?_
            refine Ev_aload_n (pc := 64) d_RU_reason_64 rfl ?_
            refine Ev_getI (pc := 65) d_RU_reason_65 rfl rfl rfl fl_RU_39 ?_
            refine Ev_iconst (v := -1) (pc := 68) d_RU_reason_68 (by decide) ?_
            refine Ev_ixor (pc := 69) d_RU_reason_69 ?_
            refine Ev_iand (pc := 70) d_RU_reason_70 ?_
            refine Ev_if_eq (tgt := 78) (pc := 71) d_RU_reason_71 rfl (fun q7 => ?_) (fun q7 => ?_)
            · refine Ev_iconst (v := 0) (pc := 78) d_RU_reason_78 (by decide) ?_
              refine Ev_ireturn (pc := 79) d_RU_reason_79 rfl rfl ?_
              rw [f_RU_reason, if_neg q1, if_neg q2, if_pos q3, if_neg q5, if_pos q6, if_pos q7] at k
              exact k
            · refine Ev_iconst (v := 5) (pc := 74) d_RU_reason_74 (by decide) ?_
              refine Ev_goto (tgt := 79) (pc := 75) d_RU_reason_75 rfl ?_
              refine Ev_ireturn (pc := 79) d_RU_reason_79 rfl rfl ?_
              rw [f_RU_reason, if_neg q1, if_neg q2, if_pos q3, if_neg q5, if_pos q6, if_neg q7] at k
              exact k
          · refine Ev_iconst (v := 4) (pc := 58) d_RU_reason_58 (by decide) ?_
            refine Ev_ireturn (pc := 59) d_RU_reason_59 rfl rfl ?_
            rw [f_RU_reason, if_neg q1, if_neg q2, if_pos q3, if_neg q5, if_neg q6] at k
            exact k
        · refine Ev_aload_n (pc := 35) d_RU_reason_35 rfl ?_
          refine Ev_callV (M' := M_PA_isConfirmedWithRhesus) (as := []) (st := []) (a := 2) (i := p) (pc := 36) d_RU_reason_36 rfl rfl rfl rfl rfl rfl rfl v_PA_isConfirmedWithRhesus lk_RU_24 rfl rfl (c_PA_isConfirmedWithRhesus  ?_)
          refine Ev_if_ne (tgt := 44) (pc := 39) d_RU_reason_39 rfl (fun q8 => ?_) (fun q8 => ?_)
          · refine Ev_aload_n (pc := 44) d_RU_reason_44 rfl ?_
            refine Ev_getI (pc := 45) d_RU_reason_45 rfl rfl rfl fl_RU_30 ?_
            refine Ev_aload_n (pc := 48) d_RU_reason_48 rfl ?_
            refine Ev_getI (pc := 49) d_RU_reason_49 rfl rfl rfl fl_RU_33 ?_
            refine Ev_iconst (v := -1) (pc := 52) d_RU_reason_52 (by decide) ?_
            refine Ev_ixor (pc := 53) d_RU_reason_53 ?_
            refine Ev_iand (pc := 54) d_RU_reason_54 ?_
            refine Ev_if_eq (tgt := 60) (pc := 55) d_RU_reason_55 rfl (fun q9 => ?_) (fun q9 => ?_)
            · refine Ev_aload_n (pc := 60) d_RU_reason_60 rfl ?_
              refine Ev_getI (pc := 61) d_RU_reason_61 rfl rfl rfl fl_RU_36 ?_
              refine Ev_aload_n (pc := 64) d_RU_reason_64 rfl ?_
              refine Ev_getI (pc := 65) d_RU_reason_65 rfl rfl rfl fl_RU_39 ?_
              refine Ev_iconst (v := -1) (pc := 68) d_RU_reason_68 (by decide) ?_
              refine Ev_ixor (pc := 69) d_RU_reason_69 ?_
              refine Ev_iand (pc := 70) d_RU_reason_70 ?_
              refine Ev_if_eq (tgt := 78) (pc := 71) d_RU_reason_71 rfl (fun q10 => ?_) (fun q10 => ?_)
              · refine Ev_iconst (v := 0) (pc := 78) d_RU_reason_78 (by decide) ?_
                refine Ev_ireturn (pc := 79) d_RU_reason_79 rfl rfl ?_
                rw [f_RU_reason, if_neg q1, if_neg q2, if_pos q3, if_pos q5, if_neg q8, if_pos q9, if_pos q10] at k
                exact k
              · refine Ev_iconst (v := 5) (pc := 74) d_RU_reason_74 (by decide) ?_
                refine Ev_goto (tgt := 79) (pc := 75) d_RU_reason_75 rfl ?_
                refine Ev_ireturn (pc := 79) d_RU_reason_79 rfl rfl ?_
                rw [f_RU_reason, if_neg q1, if_neg q2, if_pos q3, if_pos q5, if_neg q8, if_pos q9, if_neg q10] at k
                exact k
            · refine Ev_iconst (v := 4) (pc := 58) d_RU_reason_58 (by decide) ?_
              refine Ev_ireturn (pc := 59) d_RU_reason_59 rfl rfl ?_
              rw [f_RU_reason, if_neg q1, if_neg q2, if_pos q3, if_pos q5, if_neg q8, if_neg q9] at k
              exact k
          · refine Ev_iconst (v := 3) (pc := 42) d_RU_reason_42 (by decide) ?_
            refine Ev_ireturn (pc := 43) d_RU_reason_43 rfl rfl ?_
            rw [f_RU_reason, if_neg q1, if_neg q2, if_pos q3, if_pos q5, if_pos q8] at k
            exact k
    · refine Ev_iconst (v := 2) (pc := 18) d_RU_reason_18 (by decide) ?_
      refine Ev_ireturn (pc := 19) d_RU_reason_19 rfl rfl ?_
      rw [f_RU_reason, if_neg q1, if_pos q2] at k
      exact k
  · refine Ev_iconst (v := 1) (pc := 8) d_RU_reason_8 (by decide) ?_
    refine Ev_ireturn (pc := 9) d_RU_reason_9 rfl rfl ?_
    rw [f_RU_reason, if_pos q1] at k
    exact k
def f_RK_empty (h : ev_H) : ev_H := (sI h 0 3 2 0)
theorem c_RK_empty {E : ev_E} {P : Option ev_V ⊕ Nat → ev_H → Prop} {h : ev_H} (k : P (.inl none) (f_RK_empty h)) : Ev E M_RK_empty 0 [(0, vR 0 3)] [] h P := by
  refine Ev_aload_n (pc := 0) d_RK_empty_0 rfl ?_
  refine Ev_iconst (v := 0) (pc := 1) d_RK_empty_1 (by decide) ?_
  refine Ev_putI (pc := 2) d_RK_empty_2 rfl rfl rfl fl_RK_18 rfl ?_
  refine Ev_return (pc := 5) d_RK_empty_5 rfl ?_
  rw [f_RK_empty] at k
  exact k
def f_RK_at (h : ev_H) (x1 : Int32) : Int32 := (if x1 < 0 then (-1) else (if (gI h 0 3 2) ≤ x1 then (-1) else (gI h 0 4 x1.toNatClampNeg)))
theorem c_RK_at {E : ev_E} {P : Option ev_V ⊕ Nat → ev_H → Prop} {h : ev_H} {x1 : Int32} (hR : rfs h) (hs : gI h 0 3 2 ≤ 48) (k : P (.inl (some (vI (f_RK_at h x1)))) h) : Ev E M_RK_at 0 [(0, vR 0 3), (1, vI x1)] [] h P := by
  refine Ev_iload_n (pc := 0) d_RK_at_0 rfl ?_
  refine Ev_if_lt (tgt := 21) (pc := 1) d_RK_at_1 rfl (fun q1 => ?_) (fun q1 => ?_)
  · refine Ev_iconst (v := -1) (pc := 21) d_RK_at_21 (by decide) ?_
    refine Ev_ireturn (pc := 22) d_RK_at_22 rfl rfl ?_
    rw [f_RK_at, if_pos q1] at k
    exact k
  · refine Ev_iload_n (pc := 4) d_RK_at_4 rfl ?_
    refine Ev_aload_n (pc := 5) d_RK_at_5 rfl ?_
    refine Ev_getI (pc := 6) d_RK_at_6 rfl rfl rfl fl_RK_18 ?_
    refine Ev_icmp_ge (tgt := 21) (pc := 9) d_RK_at_9 rfl (fun q2 => ?_) (fun q2 => ?_)
    · refine Ev_iconst (v := -1) (pc := 21) d_RK_at_21 (by decide) ?_
      refine Ev_ireturn (pc := 22) d_RK_at_22 rfl rfl ?_
      rw [f_RK_at, if_neg q1, if_pos q2] at k
      exact k
    · refine Ev_aload_n (pc := 12) d_RK_at_12 rfl ?_
      refine Ev_getR (pc := 13) d_RK_at_13 rfl rfl rfl fl_RK_9 (rf_RK_0 hR) ?_
      refine Ev_iload_n (pc := 16) d_RK_at_16 rfl ?_
      refine Ev_iald (pc := 17) d_RK_at_17 rfl rfl q1 (rk_b q1 q2 hs) ?_
      refine Ev_goto (tgt := 22) (pc := 18) d_RK_at_18 rfl ?_
      refine Ev_ireturn (pc := 22) d_RK_at_22 rfl rfl ?_
      rw [f_RK_at, if_neg q1, if_neg q2] at k
      exact k