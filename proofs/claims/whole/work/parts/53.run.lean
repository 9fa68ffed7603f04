/-! the run over the script (by program) -/
theorem sok_mk {E : ev_E} {i j : Nat} {x : Int32} (ex : x = nI j) (q : i + j < eN E 0) (hN : eN E 0 ≤ 3072) : sok E (nI i + x) (eX E 0 (i + j)) := by
  rw [ex, nI_add]
  exact ⟨nI_pos (by omega), by rw [nI_clamp (by omega)]; exact q, by rw [nI_clamp (by omega)]⟩
theorem sok_0 {E : ev_E} {i : Nat} (q : i < eN E 0) (hN : eN E 0 ≤ 3072) : sok E (nI i) (eX E 0 i) := ⟨nI_pos (by omega), by rw [nI_clamp (by omega)]; exact q, by rw [nI_clamp (by omega)]⟩
theorem and_31 (y : Int32) : ∃ n, n < 32 ∧ y &&& 31 = nI n := by
  refine ⟨y.toBitVec.toNat % 32, Nat.mod_lt _ (by decide), ?_⟩
  apply Int32.toBitVec_inj.mp
  apply BitVec.eq_of_toNat_eq
  have e1 : (y &&& 31 : Int32).toBitVec = y.toBitVec &&& 31#32 := rfl
  have e2 : (nI (y.toBitVec.toNat % 32)).toBitVec = BitVec.ofNat 32 (y.toBitVec.toNat % 32) := rfl
  rw [e1, e2, BitVec.toNat_and]
  have e3 : (31#32).toNat = 2 ^ 5 - 1 := by decide
  rw [e3, Nat.and_two_pow_sub_one_eq_mod, BitVec.toNat_ofNat]
  have e4 : y.toBitVec.toNat % 2 ^ 5 < 32 := Nat.mod_lt _ (by decide)
  rw [Nat.mod_eq_of_lt (a := y.toBitVec.toNat % 32) (Nat.lt_of_lt_of_le e4 (by decide))]
theorem en_b {N c : Nat} (hN : N ≤ 3072) (hc : c ≤ 512) (q : ¬ (Int32.ofNat N - 6 < nI (6 * c))) : 6 * c + 6 ≤ N := by
  by_cases z : N < 6
  · exfalso
    apply q
    rw [Int32.lt_iff_toInt_lt, nI_toInt (by omega)]
    have e : (Int32.ofNat N - 6).toInt < 0 := by
      have y : N = 0 ∨ N = 1 ∨ N = 2 ∨ N = 3 ∨ N = 4 ∨ N = 5 := by omega
      rcases y with rfl | rfl | rfl | rfl | rfl | rfl <;> decide
    omega
  · have e : Int32.ofNat N - 6 = nI (N - 6) := by
      have e6 : (6 : Int32) = nI 6 := by decide
      rw [e6]
      exact nI_sb (by omega)
    rw [e, nI_ltI (by omega) (by omega)] at q
    omega
theorem lw_step {E : ev_E} {P : Option ev_V ⊕ Nat → ev_H → Prop} {h : ev_H} {c t l : Nat} (hN : eN E 0 ≤ 3072) (I : Inv h c t l) (q : ¬ (Int32.ofNat (eN E 0) - 6 < nI (6 * c))) (hb : 6 * c + 6 ≤ eN E 0) (k : Kp E P (6 * c) (c + 1)) : Ev E M_LW_law 23 [(0, vR 5 0), (1, vR 0 0), (2, vR 0 6), (3, vR 0 27), (4, vI (nI (6 * c)))] [] h P := by
  have hc : c < 512 := by omega
  have s0 := sok_0 (E := E) (i := 6 * c) (by omega) hN
  have s1 := sok_mk (E := E) (i := 6 * c) (j := 1) (x := 1) (by decide) (by omega) hN
  have s2 := sok_mk (E := E) (i := 6 * c) (j := 2) (x := 2) (by decide) (by omega) hN
  have s3 := sok_mk (E := E) (i := 6 * c) (j := 3) (x := 3) (by decide) (by omega) hN
  have s4 := sok_mk (E := E) (i := 6 * c) (j := 4) (x := 4) (by decide) (by omega) hN
  have s5 := sok_mk (E := E) (i := 6 * c) (j := 5) (x := 5) (by decide) (by omega) hN
  obtain ⟨n, hn, e⟩ := and_31 (eX E 0 (6 * c))
  by_cases z0 : n = 0
  · exact c_LW_sw_0 q s0 (by subst z0; exact e.trans (by decide)) (sp_0 (y0 := 0) I hc s1 s2 s3 s4 s5 k)
  by_cases z1 : n = 1
  · exact c_LW_sw_1 q s0 (by subst z1; exact e.trans (by decide)) (sp_1 (y0 := 0) I hc s1 s2 s3 s4 s5 k)
  by_cases z2 : n = 2
  · exact c_LW_sw_2 q s0 (by subst z2; exact e.trans (by decide)) (sp_2 (y0 := 0) I hc s1 s2 s3 s4 s5 k)
  by_cases z3 : n = 3
  · exact c_LW_sw_3 q s0 (by subst z3; exact e.trans (by decide)) (sp_3 (y0 := 0) I hc s1 s2 s3 s4 s5 k)
  by_cases z4 : n = 4
  · exact c_LW_sw_4 q s0 (by subst z4; exact e.trans (by decide)) (sp_4 (y0 := 0) I hc s1 s2 s3 s4 s5 k)
  by_cases z5 : n = 5
  · exact c_LW_sw_5 q s0 (by subst z5; exact e.trans (by decide)) (sp_5 (y0 := 0) I hc s1 s2 s3 s4 s5 k)
  by_cases z6 : n = 6
  · exact c_LW_sw_6 q s0 (by subst z6; exact e.trans (by decide)) (sp_6 (y0 := 0) I hc s1 s2 s3 s4 s5 k)
  by_cases z7 : n = 7
  · exact c_LW_sw_7 q s0 (by subst z7; exact e.trans (by decide)) (sp_7 (y0 := 0) I hc s1 s2 s3 s4 s5 k)
  by_cases z8 : n = 8
  · exact c_LW_sw_8 q s0 (by subst z8; exact e.trans (by decide)) (sp_8 (y0 := 0) I hc s1 s2 s3 s4 s5 k)
  by_cases z9 : n = 9
  · exact c_LW_sw_9 q s0 (by subst z9; exact e.trans (by decide)) (sp_9 (y0 := 0) I hc s1 s2 s3 s4 s5 k)
  by_cases z10 : n = 10
  · exact c_LW_sw_10 q s0 (by subst z10; exact e.trans (by decide)) (sp_10 (y0 := 0) I hc s1 s2 s3 s4 s5 k)
  by_cases z11 : n = 11
  · exact c_LW_sw_11 q s0 (by subst z11; exact e.trans (by decide)) (sp_11 (y0 := 0) I hc s1 s2 s3 s4 s5 k)
  by_cases z12 : n = 12
  · exact c_LW_sw_12 q s0 (by subst z12; exact e.trans (by decide)) (sp_12 (y0 := 0) I hc s1 s2 s3 s4 s5 k)
  by_cases z13 : n = 13
  · exact c_LW_sw_13 q s0 (by subst z13; exact e.trans (by decide)) (sp_13 (y0 := 0) I hc s1 s2 s3 s4 s5 k)
  by_cases z14 : n = 14
  · exact c_LW_sw_14 q s0 (by subst z14; exact e.trans (by decide)) (sp_14 (y0 := 0) I hc s1 s2 s3 s4 s5 k)
  by_cases z15 : n = 15
  · exact c_LW_sw_15 q s0 (by subst z15; exact e.trans (by decide)) (sp_15 (y0 := 0) I hc s1 s2 s3 s4 s5 k)
  by_cases z16 : n = 16
  · exact c_LW_sw_16 q s0 (by subst z16; exact e.trans (by decide)) (sp_16 (y0 := 0) I hc s1 s2 s3 s4 s5 k)
  by_cases z17 : n = 17
  · exact c_LW_sw_17 q s0 (by subst z17; exact e.trans (by decide)) (sp_17 (y0 := 0) I hc s1 s2 s3 s4 s5 k)
  by_cases z18 : n = 18
  · exact c_LW_sw_18 q s0 (by subst z18; exact e.trans (by decide)) (sp_18 (y0 := 0) I hc s1 s2 s3 s4 s5 k)
  by_cases z19 : n = 19
  · exact c_LW_sw_19 q s0 (by subst z19; exact e.trans (by decide)) (sp_19 (y0 := 0) I hc s1 s2 s3 s4 s5 k)
  by_cases z20 : n = 20
  · exact c_LW_sw_20 q s0 (by subst z20; exact e.trans (by decide)) (sp_20 (y0 := 0) I hc s1 s2 s3 s4 s5 k)
  by_cases z21 : n = 21
  · exact c_LW_sw_21 q s0 (by subst z21; exact e.trans (by decide)) (sp_21 (y0 := 0) I hc s1 s2 s3 s4 s5 k)
  by_cases z22 : n = 22
  · exact c_LW_sw_22 q s0 (by subst z22; exact e.trans (by decide)) (sp_22 (y0 := 0) I hc s1 s2 s3 s4 s5 k)
  by_cases z23 : n = 23
  · exact c_LW_sw_23 q s0 (by subst z23; exact e.trans (by decide)) (sp_23 (y0 := 0) I hc s1 s2 s3 s4 s5 k)
  by_cases z24 : n = 24
  · exact c_LW_sw_24 q s0 (by subst z24; exact e.trans (by decide)) (sp_24 (y0 := 0) I hc s1 s2 s3 s4 s5 k)
  by_cases z25 : n = 25
  · exact c_LW_sw_25 q s0 (by subst z25; exact e.trans (by decide)) (sp_25 (y0 := 0) I hc s1 s2 s3 s4 s5 k)
  by_cases z26 : n = 26
  · exact c_LW_sw_26 q s0 (by subst z26; exact e.trans (by decide)) (sp_26 (y0 := 0) I hc s1 s2 s3 s4 s5 k)
  by_cases z27 : n = 27
  · exact c_LW_sw_27 q s0 (by subst z27; exact e.trans (by decide)) (sp_27 (y0 := 0) I hc s1 s2 s3 s4 s5 k)
  by_cases z28 : n = 28
  · exact c_LW_sw_28 q s0 (by subst z28; exact e.trans (by decide)) (sp_28 (y0 := 0) I hc s1 s2 s3 s4 s5 k)
  exact c_LW_sw_out q s0 (by rw [e, nI_toInt (by omega)]; omega) (k _ _ _ (Inv_sm I sm_rf (by omega) hc))
theorem lw_run {E : ev_E} {P : Option ev_V ⊕ Nat → ev_H → Prop} (hN : eN E 0 ≤ 3072) (hP : ∀ h c t l, Inv h c t l → P (.inl (some (vI 1))) h) : ∀ m c h t l, c + m = 513 → Inv h c t l → Ev E M_LW_law 23 [(0, vR 5 0), (1, vR 0 0), (2, vR 0 6), (3, vR 0 27), (4, vI (nI (6 * c)))] [] h P
  | 0, c, h, t, l, hm, I => by
    have z := I.1.2.2.2.2.1
    omega
  | m + 1, c, h, t, l, hm, I => by
    by_cases q : (Int32.ofNat (eN E 0)) - 6 < nI (6 * c)
    · exact c_LW_end q (hP h c t l I)
    · have z := I.1.2.2.2.2.1
      have hb := en_b hN z q
      refine lw_step hN I q hb (fun h' t' l' J => c_LW_next ?_)
      have e : nI (6 * c) + 6 = nI (6 * (c + 1)) := by
        have e6 : (6 : Int32) = nI 6 := by decide
        have e7 : 6 * (c + 1) = 6 * c + 6 := by omega
        rw [e6, nI_add, e7]
      rw [e]
      exact lw_run hN hP m (c + 1) h' t' l' (by omega) J
theorem lw_law {E : ev_E} {P : Option ev_V ⊕ Nat → ev_H → Prop} (hN : eN E 0 ≤ 3072) (hP : ∀ h c t l, Inv h c t l → P (.inl (some (vI 1))) h) : Ev E M_LW_law 0 [(0, vR 5 0)] [] h00 P := LW_begin (lw_run hN hP 513 0 h03 0 0 rfl Inv_0)
