/-! the law's beginning -/
def h00 : ev_H := (fun _ _ _ => 0, fun _ _ _ => vN, fun _ _ _ => 0, 0, 0, 0, 0, 0)
def h01 : ev_H := f_TB_init (nw h00 0)
def h02 : ev_H := f_MO_init (nw h01 0)
def h03 : ev_H := nw h02 0
theorem i0_2 (h : ev_H) : ∀ a, (r_MO_init_L167 h a).2 = h.2
  | 0 => rfl
  | a + 1 => i0_2 h a
theorem i0_1 (h : ev_H) : ∀ a k i j, gI (r_MO_init_L167 h a) k i j = if k = 0 ∧ i = 26 ∧ j < a then -1 else gI h k i j
  | 0, k, i, j => by
    rw [if_neg (fun z => Nat.not_lt_zero _ z.2.2)]
    rfl
  | a + 1, k, i, j => by
    show (if k = 0 ∧ i = 26 ∧ j = a then (-1 : Int32) else gI (r_MO_init_L167 h a) k i j) = _
    rw [i0_1 h a]
    by_cases q : k = 0 ∧ i = 26
    · obtain ⟨rfl, rfl⟩ := q
      by_cases q2 : j = a
      · rw [if_pos ⟨rfl, rfl, q2⟩, if_pos ⟨rfl, rfl, by omega⟩]
      · rw [if_neg (fun z => q2 z.2.2)]
        by_cases q3 : j < a
        · rw [if_pos ⟨rfl, rfl, q3⟩, if_pos ⟨rfl, rfl, by omega⟩]
        · rw [if_neg (fun z => q3 z.2.2), if_neg (fun z => by have := z.2.2; omega)]
    · rw [if_neg (fun z => q ⟨z.1, z.2.1⟩), if_neg (fun z => q ⟨z.1, z.2.1⟩), if_neg (fun z => q ⟨z.1, z.2.1⟩)]
theorem rfs_2 {h h' : ev_H} (e : h'.2 = h.2) (q : rfs h) : rfs h' := by
  have e1 : ∀ k i j, gR h' k i j = gR h k i j := fun k i j => by unfold gR; rw [e]
  unfold rfs at q ⊢
  simp only [e1]
  exact q
/-- the last heap before the loop of the reference's beginning -/
def h02a : ev_H := sR (nw (sR (nw (sR (nw (sR (nw (hp_MO_init_132 (nw h01 0)) 0) 0 6 22 (vR 0 23)) 0) 0 6 23 (vR 0 24)) 0) 0 6 24 (vR 0 25)) 0) 0 6 25 (vR 0 26)
theorem h02_eq : h02 = r_MO_init_L167 h02a 480 := rfl
theorem h02a_R : rfs h02a := by
  refine ⟨⟨rfl, rfl, rfl, rfl, rfl⟩, ?_, ?_⟩
  · intro f hf
    have : f = 0 ∨ f = 1 ∨ f = 2 ∨ f = 3 ∨ f = 4 ∨ f = 5 ∨ f = 6 ∨ f = 7 ∨ f = 8 ∨ f = 9 ∨ f = 10 ∨ f = 11 ∨ f = 12 ∨ f = 13 := by omega
    rcases this with rfl | rfl | rfl | rfl | rfl | rfl | rfl | rfl | rfl | rfl | rfl | rfl | rfl | rfl <;> rfl
  · intro f hf
    have : f = 0 ∨ f = 1 ∨ f = 2 ∨ f = 3 ∨ f = 4 ∨ f = 5 := by omega
    rcases this with rfl | rfl | rfl | rfl | rfl | rfl <;> rfl
theorem h02_F : cF h02 = 27 := by
  have e : cF h02 = cF h02a := by rw [h02_eq]; unfold cF; rw [i0_2]
  rw [e]; rfl
theorem h02_Z : cZ h02 = 27 := by
  have e : cZ h02 = cZ h02a := by rw [h02_eq]; unfold cZ; rw [i0_2]
  rw [e]; rfl
theorem h03_R : rfs h03 := by
  have q : rfs h02 := by rw [h02_eq]; exact rfs_2 (i0_2 _ _) h02a_R
  have e1 : ∀ i j, i < 27 → gR h03 0 i j = gR h02 0 i j := fun i j hi => by
    show (if 0 = 0 ∧ i = cnt h02 0 then vN else gR h02 0 i j) = _
    rw [if_neg]
    rintro ⟨-, z⟩
    have z2 : i = cF h02 := z
    rw [h02_F] at z2
    omega
  unfold rfs at q ⊢
  rw [e1 _ _ (by decide), e1 _ _ (by decide), e1 _ _ (by decide), e1 _ _ (by decide), e1 _ _ (by decide)]
  refine ⟨q.1, fun f hf => ?_, fun f hf => ?_⟩
  · rw [e1 _ _ (by decide)]; exact q.2.1 f hf
  · rw [e1 _ _ (by decide)]; exact q.2.2 f hf
theorem z0_nw {h : ev_H} (q : ∀ k i j, gI h k i j = 0) (k0 : Nat) : ∀ k i j, gI (nw h k0) k i j = 0 := fun k i j => by
  show (if k = k0 ∧ i = cnt h k0 then (0 : Int32) else gI h k i j) = 0
  rw [q, ite_self]
theorem z0_sR {h : ev_H} (q : ∀ k i j, gI h k i j = 0) (a b c : Nat) (v : ev_V) : ∀ k i j, gI (sR h a b c v) k i j = 0 := q
theorem h01_0 : ∀ k i j, gI h01 k i j = 0 := by
  have q : ∀ k i j, gI h00 k i j = 0 := fun _ _ _ => rfl
  unfold h01 f_TB_init f_RK_init
  repeat first | exact q | apply z0_sR | apply z0_nw
theorem h02a_0 : ∀ k i j, gI h02a k i j = 0 := by
  unfold h02a hp_MO_init_132 hp_MO_init_92 hp_MO_init_52
  repeat first | exact h01_0 | apply z0_sR | apply z0_nw
theorem h03_I (k i j : Nat) : gI h03 k i j = if k = 0 ∧ i = 26 ∧ j < 480 then -1 else 0 := by
  have e : gI h02 k i j = if k = 0 ∧ i = 26 ∧ j < 480 then -1 else 0 := by rw [h02_eq, i0_1, h02a_0]
  have e2 : cnt h02 0 = 27 := h02_F
  show (if k = 0 ∧ i = cnt h02 0 then (0 : Int32) else gI h02 k i j) = _
  rw [e2, e]
  by_cases q : k = 0 ∧ i = 27
  · rw [if_pos q, if_neg (fun z => by omega)]
  · rw [if_neg q]
theorem cF_nw0 (h : ev_H) : cF (nw h 0) = cF h + 1 := rfl
theorem cU_nw0 (h : ev_H) : cU (nw h 0) = cU h := rfl
theorem cP_nw0 (h : ev_H) : cP (nw h 0) = cP h := rfl
theorem cN_nw0 (h : ev_H) : cN (nw h 0) = cN h := rfl
theorem cZ_nw (h : ev_H) (k : Nat) : cZ (nw h k) = cZ h + 1 := rfl
theorem h03_c : cF h03 = 28 ∧ cU h03 = 0 ∧ cP h03 = 0 ∧ cN h03 = 0 ∧ cZ h03 = 28 := by
  have e : h02.2 = h02a.2 := by rw [h02_eq]; exact i0_2 _ _
  have eU : cU h02 = 0 := by unfold cU; rw [e]; rfl
  have eP : cP h02 = 0 := by unfold cP; rw [e]; rfl
  have eN' : cN h02 = 0 := by unfold cN; rw [e]; rfl
  refine ⟨?_, ?_, ?_, ?_, ?_⟩
  · rw [h03, cF_nw0, h02_F]
  · rw [h03, cU_nw0, eU]
  · rw [h03, cP_nw0, eP]
  · rw [h03, cN_nw0, eN']
  · rw [h03, cZ_nw, h02_Z]
theorem LW_begin {E : ev_E} {P : Option ev_V ⊕ Nat → ev_H → Prop} (k : Ev E M_LW_law 23 [(0, vR 5 0), (1, vR 0 0), (2, vR 0 6), (3, vR 0 27), (4, vI (nI 0))] [] h03 P) : Ev E M_LW_law 0 [(0, vR 5 0)] [] h00 P := by
  have zm : ZM = 4096 := rfl
  refine Ev_new (k := 0) (i := 0) (pc := 0) d_LW_law_0 rfl rfl rfl nw_LW_8 (by decide) ?_
  refine Ev_dup (pc := 3) d_LW_law_3 rfl ?_
  refine Ev_callI (M' := M_TB_init) (as := []) (st := [vR 0 0]) (a := 0) (i := 0) (pc := 4) d_LW_law_4 rfl rfl rfl rfl i_TB_init lk_LW_114 rfl rfl (c_TB_init (by decide) rfl ?_)
  refine Ev_astore_n (pc := 7) d_LW_law_7 rfl ?_
  refine Ev_new (k := 0) (i := 6) (pc := 8) d_LW_law_8 rfl rfl rfl nw_LW_115 (by decide) ?_
  refine Ev_dup (pc := 11) d_LW_law_11 rfl ?_
  refine Ev_callI (M' := M_MO_init) (as := []) (st := [vR 0 6]) (a := 0) (i := 6) (pc := 12) d_LW_law_12 rfl rfl rfl rfl i_MO_init lk_LW_117 rfl rfl (c_MO_init (by decide) rfl (fun a _ => rfs_2 (i0_2 _ _) h02a_R) ?_)
  refine Ev_astore_n (pc := 15) d_LW_law_15 rfl ?_
  refine Ev_iconst (v := 1) (pc := 16) d_LW_law_16 (by decide) ?_
  refine Ev_newaL (k := 0) (i := 27) (n := 1) (pc := 17) d_LW_law_17 rfl h02_F rfl (by decide) (by decide) rfl w_ac_long (by show cZ h02 < ZM; rw [h02_Z, zm]; decide) ?_
  refine Ev_astore_n (pc := 19) d_LW_law_19 rfl ?_
  refine Ev_iconst (v := 0) (pc := 20) d_LW_law_20 (by decide) ?_
  refine Ev_istore (pc := 21) d_LW_law_21 rfl ?_
  exact k
