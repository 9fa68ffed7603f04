/-! what one call owes -/
theorem lg_self (x : Int64) : lg_cmp x x = 0 := by
  unfold lg_cmp
  rw [if_neg (Int64.lt_irrefl), if_pos rfl]
/-- the program's answer r, the reference's m -/
def okM (r m : Int32 × ev_H) (h : ev_H) (c : Nat) : Prop := (mE r.2 h ∧ rfs r.2) ∧ f_MO_thrown m.2 = r.1 ∧ (r.1 = 0 → lg_cmp (gL m.2 0 27 0) m.1.toInt64 = 0) ∧ ∃ t l, Inv m.2 (c + 1) t l
/-- where nothing is answered -/
def okV (r : Int32 × ev_H) (m h : ev_H) (c : Nat) : Prop := (mE r.2 h ∧ rfs r.2) ∧ f_MO_thrown m = r.1 ∧ ∃ t l, Inv m (c + 1) t l
theorem okM_rf {h : ev_H} {c t l : Nat} (I : Inv h c t l) (hc : c < 512) {v w : Int32} (hv : v ≠ 0) : okM (v, nx h) (w, sI (nx h) 0 6 0 v) h c := ⟨⟨mE_sm sm_nx, rfs_R (h := h) (fun _ _ _ => rfl) (Inv_R I)⟩, rfl, fun z => absurd z hv, t, l, Inv_sm I (sm_tr sm_60 sm_nx) (by rw [cZ_sI, cZ_nx]; omega) hc⟩
theorem okV_rf {h : ev_H} {c t l : Nat} (I : Inv h c t l) (hc : c < 512) {v : Int32} : okV (v, nx h) (sI (nx h) 0 6 0 v) h c := ⟨⟨mE_sm sm_nx, rfs_R (h := h) (fun _ _ _ => rfl) (Inv_R I)⟩, rfl, t, l, Inv_sm I (sm_tr sm_60 sm_nx) (by rw [cZ_sI, cZ_nx]; omega) hc⟩
/-- a question -/
theorem okM_q {h : ev_H} {c t l : Nat} (I : Inv h c t l) (hc : c < 512) {x y : Int32} (e : x = y) : okM (0, sL h 0 27 0 x.toInt64) (y, sI (sL h 0 27 0 x.toInt64) 0 6 0 0) h c := ⟨⟨mE_L, rfs_R (h := h) (fun _ _ _ => rfl) (Inv_R I)⟩, rfl, fun _ => by rw [e]; exact lg_self _, t, l, Inv_sm I (sm_tr sm_60 sm_sL) (by rw [cZ_sI, cZ_sL]; omega) hc⟩
theorem mE_q {h : ev_H} {v : Int64} {w : Int32} : mE (sI (sL h 0 27 0 v) 0 6 0 w) h := mE_sm (sm_tr sm_60 sm_sL)
theorem mE_rn {h : ev_H} {w : Int32} : mE (sI (nx h) 0 6 0 w) h := mE_sm (sm_tr sm_60 sm_nx)
/-- a bit by masks and a bit by shifts -/
theorem bv_1 (b : BitVec 32) (s : Nat) (hs : s < 32) : (b &&& (1#32 <<< s) = 0#32) ↔ b.getLsbD s = false := by
  constructor
  · intro z
    have y := congrArg (fun w => w.getLsbD s) z
    simpa [hs] using y
  · intro z
    apply BitVec.eq_of_getLsbD_eq
    intro i hi
    by_cases e : i = s
    · subst e
      simp [z]
    · have e2 : ¬ i - s = 0 ∨ i < s := by omega
      simp
      intro _ _
      omega
theorem bv_2 (b : BitVec 32) (s : Nat) (hs : s < 32) : (b.sshiftRight s &&& 1#32 = 1#32) ↔ b.getLsbD s = true := by
  constructor
  · intro z
    have y : (b.sshiftRight s &&& 1#32).getLsbD 0 = (1#32).getLsbD 0 := by rw [z]
    rw [BitVec.getLsbD_and, BitVec.getLsbD_sshiftRight] at y
    have e1 : (1#32).getLsbD 0 = true := by decide
    rw [e1, Bool.and_true] at y
    simpa [hs] using y
  · intro z
    apply BitVec.eq_of_getLsbD_eq
    intro i hi
    by_cases e : i = 0
    · subst e
      simp [BitVec.getLsbD_sshiftRight, hs, z]
    · simp [BitVec.getLsbD_sshiftRight, e]
theorem bit_a {x : Int32} {a : Nat} (ha : a < 16) : (x >>> (nI a &&& 31) &&& 1 = 1) ↔ ¬ (x &&& (1 <<< (nI a &&& 31)) = 0) := by
  have e : ((nI a &&& 31 : Int32).toBitVec.smod 32) = BitVec.ofNat 32 a ∧ (1 <<< (nI a &&& 31) : Int32).toBitVec = 1#32 <<< a := by
    have q : a = 0 ∨ a = 1 ∨ a = 2 ∨ a = 3 ∨ a = 4 ∨ a = 5 ∨ a = 6 ∨ a = 7 ∨ a = 8 ∨ a = 9 ∨ a = 10 ∨ a = 11 ∨ a = 12 ∨ a = 13 ∨ a = 14 ∨ a = 15 := by omega
    rcases q with rfl | rfl | rfl | rfl | rfl | rfl | rfl | rfl | rfl | rfl | rfl | rfl | rfl | rfl | rfl | rfl <;> decide +kernel
  rw [← Int32.toBitVec_inj, ← Int32.toBitVec_inj, Int32.toBitVec_and, Int32.toBitVec_and, e.2, Int32.toBitVec_shiftRight, e.1]
  have e3 : (BitVec.ofNat 32 a).toNat = a := by rw [BitVec.toNat_ofNat]; omega
  have e4 : x.toBitVec.sshiftRight' (BitVec.ofNat 32 a) = x.toBitVec.sshiftRight a := by
    show x.toBitVec.sshiftRight (BitVec.ofNat 32 a).toNat = _
    rw [e3]
  rw [e4]
  show (x.toBitVec.sshiftRight a &&& 1#32 = 1#32) ↔ ¬ (x.toBitVec &&& 1#32 <<< a = 0#32)
  rw [bv_2 _ _ (by omega), bv_1 _ _ (by omega)]
  simp
section
variable {h : ev_H} {c t l : Nat}
/-- one patient's places are written -/
theorem Inv_pat {h' : ev_H} (I : Inv h c t l) (hc : c < 512) {p : Nat} (hp : p < cP h) (s1 : ∀ k i j, vis k i j → ¬ (k = 2 ∧ i = p) → ¬ (k = 0 ∧ 21 ≤ i ∧ i ≤ 25 ∧ j = p) → gI h' k i j = gI h k i j) (s2 : ∀ k i j, gR h' k i j = gR h k i j) (s3 : cs h' = cs h) (hZ : cZ h' ≤ cZ h + 4)
    (new : PJ (fun f => gI h' 2 p f) (fun a => gI h' 0 a p)) : Inv h' (c + 1) t l := by
  obtain ⟨⟨⟨a1, a2, a3, a4, a5, a6⟩, ⟨b1, b2, b3, b4⟩, ⟨d1, d2, d3, d4, d5⟩, ⟨r1, r2⟩, t1, t2, t3⟩, iU, iP, iB, iX, iQ⟩ := I
  have eU := cs_U s3
  have eP := cs_P s3
  have g0 : ∀ j, gI h' 0 0 j = gI h 0 0 j := fun j => s1 0 0 j (by unfold vis; omega) (by omega) (by omega)
  have g6 : ∀ j, 1 ≤ j → gI h' 0 6 j = gI h 0 6 j := fun j hj => s1 0 6 j (by unfold vis; omega) (by omega) (by omega)
  have ga : ∀ a j, 7 ≤ a → a ≤ 26 → ¬ (21 ≤ a ∧ a ≤ 25 ∧ j = p) → gI h' 0 a j = gI h 0 a j := fun a j x y z => s1 0 a j (by unfold vis; omega) (by omega) (by omega)
  refine ⟨⟨⟨rfs_R s2 a1, by rw [cs_F s3]; exact a2, by rw [cs_N s3, eP]; exact a3, by rw [eU]; exact a4, by rw [eP]; exact a5, by omega⟩, ?_, ?_, ?_, by omega⟩, fun u hu => ?_, fun q hq => ?_, ?_, fun q hq u hu => ?_, fun u v hu hv n => ?_⟩
  · rw [g0, g0, g6 _ (by decide), g6 _ (by decide), eU, eP]
    exact ⟨b1, b2, b3, b4⟩
  · rw [g0, g0, g0, g6 _ (by decide), g6 _ (by decide), g6 _ (by decide)]
    exact ⟨d1, d2, d3, d4, d5⟩
  · rw [eU, eP]
    simp only [s2]
    exact ⟨r1, r2⟩
  · rw [eU] at hu
    exact UJ_congr (Nat.le_refl l) (iU u hu) (fun f => s1 1 u f (by unfold vis; omega) (by omega) (by omega)) (fun a x y => ga a u x (by omega) (by omega))
  · rw [eP] at hq
    by_cases e : q = p
    · rw [e]; exact new
    · exact PJ_congr (iP q hq) (fun f => s1 2 q f (by unfold vis; omega) (by omega) (by omega)) (fun a x y => ga a q (by omega) (by omega) (by omega))
  · refine ⟨fun u x y => ?_, fun q x y => ?_⟩
    · rw [eU] at x
      rw [ga 17 _ (by decide) (by decide) (by omega)]
      exact iB.1 u x y
    · rw [eP] at x
      rw [ga 22 _ (by decide) (by decide) (by omega), ga 23 _ (by decide) (by decide) (by omega), ga 24 _ (by decide) (by decide) (by omega), ga 25 _ (by decide) (by decide) (by omega)]
      obtain ⟨z1, z2, z3, z4, z5⟩ := iB.2 q x y
      exact ⟨z1, z2, z3, z4, fun u hu => by rw [ga 26 _ (by decide) (by decide) (by omega)]; exact z5 u hu⟩
  · rw [eP] at hq
    rw [ga 26 _ (by decide) (by decide) (by omega), s1 3 q u (by unfold vis; omega) (by omega) (by omega)]
    exact iX q hq u hu
  · rw [eU] at hu hv
    rw [ga 18 _ (by decide) (by decide) (by omega), ga 18 _ (by decide) (by decide) (by omega)]
    exact iQ u v hu hv n
/-- one unit's places are written, and the number of issues -/
theorem Inv_unit {h' : ev_H} {l' : Nat} (I : Inv h c t l) (hc : c < 512) (hl : l ≤ l') (hl' : l' ≤ c + 1) {u : Nat} (hu0 : u < cU h) (s1 : ∀ k i j, vis k i j → ¬ (k = 1 ∧ i = u) → ¬ (k = 0 ∧ 7 ≤ i ∧ i ≤ 20 ∧ j = u) → ¬ (k = 0 ∧ i = 0 ∧ j = 7) → ¬ (k = 0 ∧ i = 6 ∧ j = 17) → gI h' k i j = gI h k i j) (l7 : gI h' 0 0 7 = nI l') (l17 : gI h' 0 6 17 = nI l') (s2 : ∀ k i j, gR h' k i j = gR h k i j) (s3 : cs h' = cs h) (hZ : cZ h' ≤ cZ h + 4)
    (new : UJ t l' (fun f => gI h' 1 u f) (fun a => gI h' 0 a u)) (uq : ∀ v, v < cU h → v ≠ u → gI h' 0 18 u = gI h 0 18 v → gI h' 0 18 u = 0) : Inv h' (c + 1) t l' := by
  obtain ⟨⟨⟨a1, a2, a3, a4, a5, a6⟩, ⟨b1, b2, b3, b4⟩, ⟨d1, d2, d3, d4, d5⟩, ⟨r1, r2⟩, t1, t2, t3⟩, iU, iP, iB, iX, iQ⟩ := I
  have eU := cs_U s3
  have eP := cs_P s3
  have g0 : ∀ j, j ≠ 7 → gI h' 0 0 j = gI h 0 0 j := fun j z => s1 0 0 j (by unfold vis; omega) (by omega) (by omega) (by omega) (by omega)
  have g6 : ∀ j, 1 ≤ j → j ≠ 17 → gI h' 0 6 j = gI h 0 6 j := fun j hj z => s1 0 6 j (by unfold vis; omega) (by omega) (by omega) (by omega) (by omega)
  have ga : ∀ a j, 7 ≤ a → a ≤ 26 → ¬ (7 ≤ a ∧ a ≤ 20 ∧ j = u) → gI h' 0 a j = gI h 0 a j := fun a j x y z => s1 0 a j (by unfold vis; omega) (by omega) (by omega) (by omega) (by omega)
  refine ⟨⟨⟨rfs_R s2 a1, by rw [cs_F s3]; exact a2, by rw [cs_N s3, eP]; exact a3, by rw [eU]; exact a4, by rw [eP]; exact a5, by omega⟩, ?_, ?_, ?_, by omega⟩, fun v hv => ?_, fun q hq => ?_, ?_, fun q hq v hv => ?_, fun v w hv hw n => ?_⟩
  · rw [g0 _ (by decide), g0 _ (by decide), g6 _ (by decide) (by decide), g6 _ (by decide) (by decide), eU, eP]
    exact ⟨b1, b2, b3, b4⟩
  · rw [g0 _ (by decide), g0 _ (by decide), g6 _ (by decide) (by decide), g6 _ (by decide) (by decide)]
    exact ⟨d1, d2, d3, l7, l17⟩
  · rw [eU, eP]
    simp only [s2]
    exact ⟨r1, r2⟩
  · rw [eU] at hv
    by_cases e : v = u
    · rw [e]; exact new
    · exact UJ_congr hl (iU v hv) (fun f => s1 1 v f (by unfold vis; omega) (by omega) (by omega) (by omega) (by omega)) (fun a x y => ga a v x (by omega) (by omega))
  · rw [eP] at hq
    exact PJ_congr (iP q hq) (fun f => s1 2 q f (by unfold vis; omega) (by omega) (by omega) (by omega) (by omega)) (fun a x y => ga a q (by omega) (by omega) (by omega))
  · refine ⟨fun v x y => ?_, fun q x y => ?_⟩
    · rw [eU] at x
      rw [ga 17 _ (by decide) (by decide) (by omega)]
      exact iB.1 v x y
    · rw [eP] at x
      rw [ga 22 _ (by decide) (by decide) (by omega), ga 23 _ (by decide) (by decide) (by omega), ga 24 _ (by decide) (by decide) (by omega), ga 25 _ (by decide) (by decide) (by omega)]
      obtain ⟨z1, z2, z3, z4, z5⟩ := iB.2 q x y
      exact ⟨z1, z2, z3, z4, fun v hv => by rw [ga 26 _ (by decide) (by decide) (by omega)]; exact z5 v hv⟩
  · rw [eP] at hq
    rw [ga 26 _ (by decide) (by decide) (by omega), s1 3 q v (by unfold vis; omega) (by omega) (by omega) (by omega) (by omega)]
    exact iX q hq v hv
  · rw [eU] at hv hw
    intro z
    by_cases e1 : v = u
    · by_cases e2 : w = u
      · exact absurd (e1.trans e2.symm) n
      · rw [e1] at z ⊢
        rw [ga 18 w (by decide) (by decide) (by omega)] at z
        exact uq w hw e2 z
    · by_cases e2 : w = u
      · rw [e2] at z
        rw [ga 18 v (by decide) (by decide) (by omega)] at z
        rw [ga 18 v (by decide) (by decide) (by omega), z]
        exact uq v hv e1 z.symm
      · rw [ga 18 v (by decide) (by decide) (by omega), ga 18 w (by decide) (by decide) (by omega)] at z
        rw [ga 18 v (by decide) (by decide) (by omega)]
        exact iQ v w hv hw n z
/-- one test is written -/
theorem Inv_mx {h' : ev_H} (I : Inv h c t l) (hc : c < 512) {p u : Nat} (hp : p < cP h) (hu0 : u < 48) (s1 : ∀ k i j, vis k i j → ¬ (k = 3 ∧ i = p ∧ j = u) → ¬ (k = 0 ∧ i = 26 ∧ j = 48 * p + u) → gI h' k i j = gI h k i j) (s2 : ∀ k i j, gR h' k i j = gR h k i j) (s3 : cs h' = cs h) (hZ : cZ h' ≤ cZ h + 4)
    (new : gI h' 3 p u = gI h' 0 26 (48 * p + u) ∧ (gI h' 0 26 (48 * p + u) = -1 ∨ 0 ≤ gI h' 0 26 (48 * p + u))) : Inv h' (c + 1) t l := by
  obtain ⟨⟨⟨a1, a2, a3, a4, a5, a6⟩, ⟨b1, b2, b3, b4⟩, ⟨d1, d2, d3, d4, d5⟩, ⟨r1, r2⟩, t1, t2, t3⟩, iU, iP, iB, iX, iQ⟩ := I
  have eU := cs_U s3
  have eP := cs_P s3
  have g0 : ∀ j, gI h' 0 0 j = gI h 0 0 j := fun j => s1 0 0 j (by unfold vis; omega) (by omega) (by omega)
  have g6 : ∀ j, 1 ≤ j → gI h' 0 6 j = gI h 0 6 j := fun j hj => s1 0 6 j (by unfold vis; omega) (by omega) (by omega)
  have ga : ∀ a j, 7 ≤ a → a ≤ 26 → ¬ (a = 26 ∧ j = 48 * p + u) → gI h' 0 a j = gI h 0 a j := fun a j x y z => s1 0 a j (by unfold vis; omega) (by omega) (by omega)
  refine ⟨⟨⟨rfs_R s2 a1, by rw [cs_F s3]; exact a2, by rw [cs_N s3, eP]; exact a3, by rw [eU]; exact a4, by rw [eP]; exact a5, by omega⟩, ?_, ?_, ?_, by omega⟩, fun v hv => ?_, fun q hq => ?_, ?_, fun q hq v hv => ?_, fun v w hv hw n => ?_⟩
  · rw [g0, g0, g6 _ (by decide), g6 _ (by decide), eU, eP]
    exact ⟨b1, b2, b3, b4⟩
  · rw [g0, g0, g0, g6 _ (by decide), g6 _ (by decide), g6 _ (by decide)]
    exact ⟨d1, d2, d3, d4, d5⟩
  · rw [eU, eP]
    simp only [s2]
    exact ⟨r1, r2⟩
  · rw [eU] at hv
    exact UJ_congr (Nat.le_refl l) (iU v hv) (fun f => s1 1 v f (by unfold vis; omega) (by omega) (by omega)) (fun a x y => ga a v x (by omega) (by omega))
  · rw [eP] at hq
    exact PJ_congr (iP q hq) (fun f => s1 2 q f (by unfold vis; omega) (by omega) (by omega)) (fun a x y => ga a q (by omega) (by omega) (by omega))
  · refine ⟨fun v x y => ?_, fun q x y => ?_⟩
    · rw [eU] at x
      rw [ga 17 _ (by decide) (by decide) (by omega)]
      exact iB.1 v x y
    · rw [eP] at x
      rw [ga 22 _ (by decide) (by decide) (by omega), ga 23 _ (by decide) (by decide) (by omega), ga 24 _ (by decide) (by decide) (by omega), ga 25 _ (by decide) (by decide) (by omega)]
      obtain ⟨z1, z2, z3, z4, z5⟩ := iB.2 q x y
      exact ⟨z1, z2, z3, z4, fun v hv => by rw [ga 26 _ (by decide) (by decide) (by omega)]; exact z5 v hv⟩
  · rw [eP] at hq
    by_cases e : q = p ∧ v = u
    · obtain ⟨rfl, rfl⟩ := e
      exact new
    · rw [ga 26 _ (by decide) (by decide) (by omega), s1 3 q v (by unfold vis; omega) (by omega) (by omega)]
      exact iX q hq v hv
  · rw [eU] at hv hw
    rw [ga 18 _ (by decide) (by decide) (by omega), ga 18 _ (by decide) (by decide) (by omega)]
    exact iQ v w hv hw n
end
