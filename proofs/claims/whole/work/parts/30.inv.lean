/-! reading after writing -/
theorem gI_ne {h : ev_H} {k i j a b c : Nat} {v : Int32} (q : ¬ (a = k ∧ b = i ∧ c = j)) : gI (sI h k i j v) a b c = gI h a b c := if_neg q
theorem gI_eq {h : ev_H} {k i j a b c : Nat} {v : Int32} (q : a = k ∧ b = i ∧ c = j) : gI (sI h k i j v) a b c = v := if_pos q
theorem gI_sR {h : ev_H} {k i j a b c : Nat} {v : ev_V} : gI (sR h k i j v) a b c = gI h a b c := rfl
theorem gI_sL {h : ev_H} {k i j a b c : Nat} {v : Int64} : gI (sL h k i j v) a b c = gI h a b c := rfl
theorem gI_nx {h : ev_H} {a b c : Nat} : gI (nx h) a b c = gI h a b c := rfl
theorem gI_nwn {h : ev_H} {k a b c : Nat} (q : ¬ (a = k ∧ b = cnt h k)) : gI (nw h k) a b c = gI h a b c := if_neg q
theorem gI_nwe {h : ev_H} {k a b c : Nat} (q : a = k ∧ b = cnt h k) : gI (nw h k) a b c = 0 := if_pos q
theorem gR_sI {h : ev_H} {k i j a b c : Nat} {v : Int32} : gR (sI h k i j v) a b c = gR h a b c := rfl
theorem gR_sL {h : ev_H} {k i j a b c : Nat} {v : Int64} : gR (sL h k i j v) a b c = gR h a b c := rfl
theorem gR_nx {h : ev_H} {a b c : Nat} : gR (nx h) a b c = gR h a b c := rfl
theorem gR_ne {h : ev_H} {k i j a b c : Nat} {v : ev_V} (q : ¬ (a = k ∧ b = i ∧ c = j)) : gR (sR h k i j v) a b c = gR h a b c := if_neg q
theorem gR_eq {h : ev_H} {k i j a b c : Nat} {v : ev_V} (q : a = k ∧ b = i ∧ c = j) : gR (sR h k i j v) a b c = v := if_pos q
theorem gR_nwn {h : ev_H} {k a b c : Nat} (q : ¬ (a = k ∧ b = cnt h k)) : gR (nw h k) a b c = gR h a b c := if_neg q
theorem gL_sI {h : ev_H} {k i j a b c : Nat} {v : Int32} : gL (sI h k i j v) a b c = gL h a b c := rfl
theorem gL_sL {h : ev_H} {k i j : Nat} {v : Int64} : gL (sL h k i j v) k i j = v := if_pos ⟨rfl, rfl, rfl⟩
/-- the counts -/
def cs (h : ev_H) : Nat × Nat × Nat × Nat := (cF h, cU h, cP h, cN h)
theorem cs_sI {h : ev_H} {k i j : Nat} {v : Int32} : cs (sI h k i j v) = cs h := rfl
theorem cs_sR {h : ev_H} {k i j : Nat} {v : ev_V} : cs (sR h k i j v) = cs h := rfl
theorem cs_sL {h : ev_H} {k i j : Nat} {v : Int64} : cs (sL h k i j v) = cs h := rfl
theorem cs_nx {h : ev_H} : cs (nx h) = cs h := rfl
theorem cZ_sI {h : ev_H} {k i j : Nat} {v : Int32} : cZ (sI h k i j v) = cZ h := rfl
theorem cZ_sR {h : ev_H} {k i j : Nat} {v : ev_V} : cZ (sR h k i j v) = cZ h := rfl
theorem cZ_sL {h : ev_H} {k i j : Nat} {v : Int64} : cZ (sL h k i j v) = cZ h := rfl
theorem cZ_nx {h : ev_H} : cZ (nx h) = cZ h + 1 := rfl
theorem cs_U {h h' : ev_H} (q : cs h' = cs h) : cU h' = cU h := congrArg (fun z => z.2.1) q
theorem cs_P {h h' : ev_H} (q : cs h' = cs h) : cP h' = cP h := congrArg (fun z => z.2.2.1) q
theorem cs_F {h h' : ev_H} (q : cs h' = cs h) : cF h' = cF h := congrArg (fun z => z.1) q
theorem cs_N {h h' : ev_H} (q : cs h' = cs h) : cN h' = cN h := congrArg (fun z => z.2.2.2) q
/-! a unit as the reference keeps it (g) and as the program keeps it (f); a patient likewise -/
def stO (now : Int32) (g : Nat → Int32) : Int32 := if g 15 = 1 then (if now - g 17 < 4320 then g 15 else 0) else g 15
def UJ (t l : Nat) (f g : Nat → Int32) : Prop :=
  ((f 0 = g 7 ∧ f 1 = g 8 ∧ f 2 = g 9 ∧ f 3 = g 14 ∧ f 4 = g 13) ∧ (f 5 = g 10 ∧ f 6 = g 11 ∧ f 7 = g 12 ∧ f 13 = g 19 ∧ f 14 = g 20)) ∧
  (f 8 = stO (nI t) g ∧ f 9 = (if 0 < g 18 then g 16 else (if stO (nI t) g = 1 then g 16 else -1)) ∧ f 12 = g 18 - 1) ∧
  ((stO (nI t) g = 1 → f 10 = g 17 + 4320) ∧ (g 15 = 2 → f 11 = g 17)) ∧
  ((∃ s, s ≤ t ∧ g 17 = nI s) ∧ (∃ k, k ≤ l ∧ g 18 = nI k) ∧ (∃ k, k < 6 ∧ g 15 = nI k)) ∧
  ((g 15 = 0 ∨ g 15 = 1 → g 18 = 0 ∧ g 19 = 0) ∧ (g 15 = 2 → 0 < g 18))
def PJ (f g : Nat → Int32) : Prop :=
  (f 0 = g 23 ∧ f 3 = g 22 ∧ f 4 = g 24 ∧ f 5 = g 25) ∧
  ((g 21 = -1 ∧ f 1 = -1 ∧ f 2 = -1 ∧ g 23 = 0) ∨ ∃ a b, a < 4 ∧ b < 2 ∧ g 21 = nI (2 * a + b) ∧ f 1 = nI a ∧ f 2 = nI b) ∧
  (∃ k, k < 256 ∧ g 24 = nI k)
/-- counts, references, what is of the whole store -/
def IvS (h : ev_H) (c t l : Nat) : Prop :=
  (rfs h ∧ cF h = 28 ∧ cN h = cP h ∧ cU h ≤ 48 ∧ cP h ≤ 10 ∧ cZ h ≤ 28 + 4 * c) ∧
  (gI h 0 0 3 = nI (cU h) ∧ gI h 0 6 2 = nI (cU h) ∧ gI h 0 0 4 = nI (cP h) ∧ gI h 0 6 19 = nI (cP h)) ∧
  (gI h 0 0 5 = nI t ∧ gI h 0 6 1 = nI t ∧ gI h 0 0 6 = gI h 0 6 18 ∧ gI h 0 0 7 = nI l ∧ gI h 0 6 17 = nI l) ∧
  ((∀ u, u < cU h → gR h 0 1 u = vR 1 u) ∧ (∀ p, p < cP h → gR h 0 2 p = vR 2 p ∧ gR h 2 p 6 = vR 3 p)) ∧
  (c ≤ 512 ∧ t ≤ 50000 * c ∧ l ≤ c)
def IvU (h : ev_H) (t l : Nat) : Prop := ∀ u, u < cU h → UJ t l (fun f => gI h 1 u f) (fun a => gI h 0 a u)
def IvP (h : ev_H) : Prop := ∀ p, p < cP h → PJ (fun f => gI h 2 p f) (fun a => gI h 0 a p)
/-- places not yet taken -/
def IvB (h : ev_H) : Prop := (∀ u, cU h ≤ u → u < 48 → gI h 0 17 u = 0) ∧ (∀ p, cP h ≤ p → p < 10 → gI h 0 22 p = 0 ∧ gI h 0 23 p = 0 ∧ gI h 0 24 p = 0 ∧ gI h 0 25 p = 0 ∧ ∀ u, u < 48 → gI h 0 26 (48 * p + u) = -1)
def IvX (h : ev_H) : Prop := ∀ p, p < cP h → ∀ u, u < 48 → gI h 3 p u = gI h 0 26 (48 * p + u) ∧ (gI h 0 26 (48 * p + u) = -1 ∨ 0 ≤ gI h 0 26 (48 * p + u))
def IvQ (h : ev_H) : Prop := ∀ u v, u < cU h → v < cU h → u ≠ v → gI h 0 18 u = gI h 0 18 v → gI h 0 18 u = 0
def Inv (h : ev_H) (c t l : Nat) : Prop := IvS h c t l ∧ IvU h t l ∧ IvP h ∧ IvB h ∧ IvX h ∧ IvQ h
theorem Inv_0 : Inv h03 0 0 0 := by
  obtain ⟨c1, c2, c3, c4, c5⟩ := h03_c
  refine ⟨⟨⟨h03_R, c1, by rw [c4, c3], by omega, by omega, by omega⟩, ?_, ?_, ⟨fun u hu => by omega, fun p hp => by omega⟩, by omega⟩, fun u hu => by omega, fun p hp => by omega, ⟨fun u _ hu => ?_, fun p _ hp => ?_⟩, fun p hp => by omega, fun u v hu => by omega⟩
  · rw [c2, c3]
    simp only [h03_I]
    decide
  · simp only [h03_I]
    decide
  · rw [h03_I, if_neg (by omega)]
  · refine ⟨?_, ?_, ?_, ?_, fun u hu => ?_⟩
    · rw [h03_I, if_neg (by omega)]
    · rw [h03_I, if_neg (by omega)]
    · rw [h03_I, if_neg (by omega)]
    · rw [h03_I, if_neg (by omega)]
    · rw [h03_I, if_pos (by omega)]
theorem UJ_congr {t l l' : Nat} {f g f' g' : Nat → Int32} (hl : l ≤ l') (q : UJ t l f g) (hf : ∀ a, f' a = f a) (hg : ∀ a, 7 ≤ a → a ≤ 20 → g' a = g a) : UJ t l' f' g' := by
  have e1 : stO (nI t) g' = stO (nI t) g := by unfold stO; rw [hg 15 (by decide) (by decide), hg 17 (by decide) (by decide)]
  unfold UJ at q ⊢
  rw [e1]
  simp only [hf, hg 7 (by decide) (by decide), hg 8 (by decide) (by decide), hg 9 (by decide) (by decide), hg 10 (by decide) (by decide), hg 11 (by decide) (by decide), hg 12 (by decide) (by decide), hg 13 (by decide) (by decide), hg 14 (by decide) (by decide), hg 15 (by decide) (by decide), hg 16 (by decide) (by decide), hg 17 (by decide) (by decide), hg 18 (by decide) (by decide), hg 19 (by decide) (by decide), hg 20 (by decide) (by decide)]
  obtain ⟨a1, a2, a3, ⟨a4, ⟨k, hk, a5⟩, a6⟩, a7⟩ := q
  exact ⟨a1, a2, a3, ⟨a4, ⟨k, Nat.le_trans hk hl, a5⟩, a6⟩, a7⟩
theorem PJ_congr {f g f' g' : Nat → Int32} (q : PJ f g) (hf : ∀ a, f' a = f a) (hg : ∀ a, 21 ≤ a → a ≤ 25 → g' a = g a) : PJ f' g' := by
  unfold PJ at q ⊢
  simp only [hf, hg 21 (by decide) (by decide), hg 22 (by decide) (by decide), hg 23 (by decide) (by decide), hg 24 (by decide) (by decide), hg 25 (by decide) (by decide)]
  exact q
/-- places that mean something; those of scratch and of what the last call threw are not among them -/
def vis (k i j : Nat) : Prop := k = 1 ∨ k = 2 ∨ k = 3 ∨ (k = 0 ∧ i = 0) ∨ (k = 0 ∧ i = 6 ∧ 1 ≤ j) ∨ (k = 0 ∧ 7 ≤ i ∧ i ≤ 26)
/-- h' is h, but for scratch -/
def sm (h' h : ev_H) : Prop := (∀ k i j, vis k i j → gI h' k i j = gI h k i j) ∧ (∀ k i j, gR h' k i j = gR h k i j) ∧ cs h' = cs h
theorem sm_rf {h : ev_H} : sm h h := ⟨fun _ _ _ _ => rfl, fun _ _ _ => rfl, rfl⟩
theorem sm_tr {h h' h2 : ev_H} (a : sm h2 h') (b : sm h' h) : sm h2 h := ⟨fun k i j v => (a.1 k i j v).trans (b.1 k i j v), fun k i j => (a.2.1 k i j).trans (b.2.1 k i j), a.2.2.trans b.2.2⟩
theorem sm_nx {h : ev_H} : sm (nx h) h := ⟨fun _ _ _ _ => rfl, fun _ _ _ => rfl, rfl⟩
theorem sm_sL {h : ev_H} {k i j : Nat} {v : Int64} : sm (sL h k i j v) h := ⟨fun _ _ _ _ => rfl, fun _ _ _ => rfl, rfl⟩
theorem sm_sI {h : ev_H} {k i j : Nat} {v : Int32} (q : ¬ vis k i j) : sm (sI h k i j v) h := ⟨fun a b c z => gI_ne (by rintro ⟨rfl, rfl, rfl⟩; exact q z), fun _ _ _ => rfl, rfl⟩
theorem sm_60 {h : ev_H} {v : Int32} : sm (sI h 0 6 0 v) h := sm_sI (by unfold vis; omega)
theorem rfs_R {h h' : ev_H} (e : ∀ k i j, gR h' k i j = gR h k i j) (q : rfs h) : rfs h' := by
  unfold rfs at q ⊢
  simp only [e]
  exact q
theorem Inv_sm {h h' : ev_H} {c t l : Nat} (I : Inv h c t l) (s : sm h' h) (hZ : cZ h' ≤ cZ h + 4) (hc : c < 512) : Inv h' (c + 1) t l := by
  obtain ⟨⟨⟨a1, a2, a3, a4, a5, a6⟩, ⟨b1, b2, b3, b4⟩, ⟨d1, d2, d3, d4, d5⟩, ⟨r1, r2⟩, t1, t2, t3⟩, iU, iP, iB, iX, iQ⟩ := I
  obtain ⟨s1, s2, s3⟩ := s
  have eU := cs_U s3
  have eP := cs_P s3
  have g0 : ∀ j, gI h' 0 0 j = gI h 0 0 j := fun j => s1 0 0 j (by unfold vis; omega)
  have g6 : ∀ j, 1 ≤ j → gI h' 0 6 j = gI h 0 6 j := fun j hj => s1 0 6 j (by unfold vis; omega)
  have ga : ∀ a j, 7 ≤ a → a ≤ 26 → gI h' 0 a j = gI h 0 a j := fun a j x y => s1 0 a j (by unfold vis; omega)
  refine ⟨⟨⟨rfs_R s2 a1, by rw [cs_F s3]; exact a2, by rw [cs_N s3, eP]; exact a3, by rw [eU]; exact a4, by rw [eP]; exact a5, by omega⟩, ?_, ?_, ?_, by omega⟩, fun u hu => ?_, fun p hp => ?_, ?_, fun p hp u hu => ?_, fun u v hu hv n => ?_⟩
  · rw [g0, g0, g6 _ (by decide), g6 _ (by decide), eU, eP]
    exact ⟨b1, b2, b3, b4⟩
  · rw [g0, g0, g0, g6 _ (by decide), g6 _ (by decide), g6 _ (by decide)]
    exact ⟨d1, d2, d3, d4, d5⟩
  · rw [eU, eP]
    simp only [s2]
    exact ⟨r1, r2⟩
  · rw [eU] at hu
    exact UJ_congr (Nat.le_refl l) (iU u hu) (fun f => s1 1 u f (by unfold vis; omega)) (fun a x y => ga a u x (by omega))
  · rw [eP] at hp
    exact PJ_congr (iP p hp) (fun f => s1 2 p f (by unfold vis; omega)) (fun a x y => ga a p (by omega) (by omega))
  · unfold IvB at iB ⊢
    rw [eU, eP]
    simp only [ga 17 _ (by decide) (by decide), ga 22 _ (by decide) (by decide), ga 23 _ (by decide) (by decide), ga 24 _ (by decide) (by decide), ga 25 _ (by decide) (by decide), ga 26 _ (by decide) (by decide)]
    exact iB
  · rw [eP] at hp
    rw [ga 26 _ (by decide) (by decide), s1 3 p u (by unfold vis; omega)]
    exact iX p hp u hu
  · rw [eU] at hu hv
    rw [ga 18 _ (by decide) (by decide), ga 18 _ (by decide) (by decide)]
    exact iQ u v hu hv n
