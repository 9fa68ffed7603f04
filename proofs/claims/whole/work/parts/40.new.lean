/-! one more unit -/
theorem gI_w1n {h : ev_H} {a b c : Nat} (q : ¬ (a = 1 ∧ b = cU h)) : gI (nw h 1) a b c = gI h a b c := if_neg q
theorem gI_w1e {h : ev_H} {a b c : Nat} (q : a = 1 ∧ b = cU h) : gI (nw h 1) a b c = 0 := if_pos q
/-- the program's places of A, the reference's of B -/
def mg (A B : ev_H) : ev_H := (fun k i j => if k = 0 ∧ 6 ≤ i ∧ i ≤ 26 then gI B k i j else gI A k i j, A.2)
theorem mg_m {A B : ev_H} {i j : Nat} (a : 6 ≤ i) (b : i ≤ 26) : gI (mg A B) 0 i j = gI B 0 i j := if_pos ⟨rfl, a, b⟩
theorem mg_c {A B : ev_H} {k i j : Nat} (q : ¬ (k = 0 ∧ 6 ≤ i ∧ i ≤ 26)) : gI (mg A B) k i j = gI A k i j := if_neg q
theorem mg_fin {C M : ev_H} (q : ∀ k i j, ¬ (k = 0 ∧ 6 ≤ i ∧ i ≤ 26) → gI M k i j = gI C k i j) (e : M.2 = C.2) : mg C M = M := by
  refine Prod.ext ?_ e.symm
  funext k i j
  show (if k = 0 ∧ 6 ≤ i ∧ i ≤ 26 then gI M k i j else gI C k i j) = gI M k i j
  by_cases z : k = 0 ∧ 6 ≤ i ∧ i ≤ 26
  · rw [if_pos z]
  · rw [if_neg z, q k i j z]
theorem mg_0 {h B : ev_H} {c t l : Nat} (I : Inv h c t l) (hc : c < 512) (e : mE B h) : Inv (mg h B) (c + 1) t l := by
  refine Inv_sm I ⟨fun k i j v => ?_, fun _ _ _ => rfl, rfl⟩ (Nat.le_add_right _ _) hc
  by_cases z : k = 0 ∧ 6 ≤ i ∧ i ≤ 26
  · obtain ⟨rfl, a, b⟩ := z
    rw [mg_m a b]
    exact e i j a b (fun y => by unfold vis at v; omega)
  · rw [mg_c z]
/-- one more unit -/
theorem Inv_new {h h' : ev_H} {c t l : Nat} (I : Inv h c t l) (hn : cU h < 48) (s1 : ∀ k i j, vis k i j → ¬ (k = 1 ∧ i = cU h) → ¬ (k = 0 ∧ 7 ≤ i ∧ i ≤ 20 ∧ j = cU h) → ¬ (k = 0 ∧ i = 0 ∧ j = 3) → ¬ (k = 0 ∧ i = 6 ∧ j = 2) → gI h' k i j = gI h k i j) (s2 : ∀ k i j, ¬ (k = 0 ∧ i = 1 ∧ j = cU h) → ¬ (k = 1) → gR h' k i j = gR h k i j) (r : gR h' 0 1 (cU h) = vR 1 (cU h)) (s3 : cs h' = (cF h, cU h + 1, cP h, cN h)) (hZ : cZ h' ≤ 28 + 4 * c)
    (n3 : gI h' 0 0 3 = nI (cU h + 1)) (n2 : gI h' 0 6 2 = nI (cU h + 1)) (new : UJ t l (fun f => gI h' 1 (cU h) f) (fun a => gI h' 0 a (cU h))) (g18 : gI h' 0 18 (cU h) = 0) : Inv h' c t l := by
  obtain ⟨⟨⟨a1, a2, a3, a4, a5, a6⟩, ⟨b1, b2, b3, b4⟩, ⟨d1, d2, d3, d4, d5⟩, ⟨r1, r2⟩, t1, t2, t3⟩, iU, iP, iB, iX, iQ⟩ := I
  have eU : cU h' = cU h + 1 := congrArg (fun z => z.2.1) s3
  have eP : cP h' = cP h := congrArg (fun z => z.2.2.1) s3
  have eF : cF h' = cF h := congrArg (fun z => z.1) s3
  have eN' : cN h' = cN h := congrArg (fun z => z.2.2.2) s3
  have g0 : ∀ j, j ≠ 3 → gI h' 0 0 j = gI h 0 0 j := fun j hj => s1 0 0 j (by unfold vis; omega) (by omega) (by omega) (by omega) (by omega)
  have g6 : ∀ j, 1 ≤ j → j ≠ 2 → gI h' 0 6 j = gI h 0 6 j := fun j hj z => s1 0 6 j (by unfold vis; omega) (by omega) (by omega) (by omega) (by omega)
  have ga : ∀ a j, 7 ≤ a → a ≤ 26 → ¬ (a ≤ 20 ∧ j = cU h) → gI h' 0 a j = gI h 0 a j := fun a j x y z => s1 0 a j (by unfold vis; omega) (by omega) (by omega) (by omega) (by omega)
  have rr : ∀ i j, i ≠ 1 → gR h' 0 i j = gR h 0 i j := fun i j z => s2 0 i j (by omega) (by omega)
  refine ⟨⟨⟨?_, by rw [eF]; exact a2, by rw [eN', eP]; exact a3, by omega, by omega, hZ⟩, ?_, ?_, ?_, t1, t2, t3⟩, fun u hu => ?_, fun p hp => ?_, ?_, fun p hp u hu => ?_, fun u v hu hv n => ?_⟩
  · unfold rfs at a1 ⊢
    simp only [rr 0 _ (by decide), rr 3 _ (by decide), rr 6 _ (by decide)]
    exact a1
  · rw [g0 4 (by decide), g6 19 (by decide) (by decide), eU, eP]
    exact ⟨n3, n2, b3, b4⟩
  · rw [g0 _ (by decide), g0 _ (by decide), g0 _ (by decide), g6 _ (by decide) (by decide), g6 _ (by decide) (by decide), g6 _ (by decide) (by decide)]
    exact ⟨d1, d2, d3, d4, d5⟩
  · rw [eU, eP]
    refine ⟨fun u hu => ?_, fun p hp => ?_⟩
    · by_cases z : u = cU h
      · rw [z]; exact r
      · rw [s2 0 1 u (by omega) (by omega)]
        exact r1 u (by omega)
    · rw [rr 2 p (by decide), s2 2 p 6 (by omega) (by omega)]
      exact r2 p hp
  · rw [eU] at hu
    by_cases z : u = cU h
    · rw [z]; exact new
    · exact UJ_congr (Nat.le_refl l) (iU u (by omega)) (fun f => s1 1 u f (by unfold vis; omega) (by omega) (by omega) (by omega) (by omega)) (fun a x y => ga a u x (by omega) (by omega))
  · rw [eP] at hp
    exact PJ_congr (iP p hp) (fun f => s1 2 p f (by unfold vis; omega) (by omega) (by omega) (by omega) (by omega)) (fun a x y => ga a p (by omega) (by omega) (by omega))
  · refine ⟨fun u x y => ?_, fun p x y => ?_⟩
    · rw [eU] at x
      rw [ga 17 _ (by decide) (by decide) (by omega)]
      exact iB.1 u (by omega) y
    · rw [eP] at x
      rw [ga 22 _ (by decide) (by decide) (by omega), ga 23 _ (by decide) (by decide) (by omega), ga 24 _ (by decide) (by decide) (by omega), ga 25 _ (by decide) (by decide) (by omega)]
      obtain ⟨z1, z2, z3, z4, z5⟩ := iB.2 p x y
      exact ⟨z1, z2, z3, z4, fun u hu => by rw [ga 26 _ (by decide) (by decide) (by omega)]; exact z5 u hu⟩
  · rw [eP] at hp
    rw [ga 26 _ (by decide) (by decide) (by omega), s1 3 p u (by unfold vis; omega) (by omega) (by omega) (by omega) (by omega)]
    exact iX p hp u hu
  · rw [eU] at hu hv
    intro z
    by_cases e1 : u = cU h
    · rw [e1]; exact g18
    · rw [ga 18 u (by decide) (by decide) (by omega)] at z ⊢
      by_cases e2 : v = cU h
      · rw [z, e2]; exact g18
      · rw [ga 18 v (by decide) (by decide) (by omega)] at z
        exact iQ u v (by omega) (by omega) n z
/-- the reference's heap with one more unit -/
def adH (B : ev_H) (n a : Nat) (kd mk E : Int32) : ev_H := sI (sI (sI (sI (sI (sI (sI (sI (sI (sI (sI (sI (sI (sI B 0 6 2 (nI (n + 1))) 0 7 n kd) 0 8 n (gI B 0 8 a)) 0 9 n (gI B 0 9 a)) 0 10 n (gI B 0 10 a)) 0 11 n (gI B 0 11 a)) 0 12 n (gI B 0 12 a ||| mk)) 0 13 n E) 0 14 n (gI B 0 14 a)) 0 15 n 0) 0 16 n (-1)) 0 18 n 0) 0 19 n 0) 0 20 n 0
def adE (B : ev_H) (a : Nat) (lim : Int32) : Int32 := if lim < 0 then gI B 0 13 a else (if gI B 0 13 a ≤ gI B 0 6 1 + lim then gI B 0 13 a else gI B 0 6 1 + lim)
theorem ad_eq {B : ev_H} {n a : Nat} {kd mk lim : Int32} (hn : n < 48) (ha : a < 48) (e : gI B 0 6 2 = nI n) : f_MO_add B (nI a) kd mk lim = (nI n, adH B n a kd mk (adE B a lim)) := by
  have cn : (nI n).toNatClampNeg = n := nI_clamp (by omega)
  have ca : (nI a).toNatClampNeg = a := nI_clamp (by omega)
  have e37 : hp_MO_add_37 B (nI a) kd mk lim = sI (sI (sI B 0 6 2 (nI (n + 1))) 0 7 n kd) 0 8 n (gI B 0 8 a) := by
    unfold hp_MO_add_37
    rw [e, cn, ca, nI_1]
    simp (disch := omega) only [gI_ne, gI_eq, gI_sL, gI_sR, gI_nx, gI_w1n, gI_w1e]
  have e63 : hp_MO_add_63 B (nI a) kd mk lim = sI (sI (sI (sI (sI B 0 6 2 (nI (n + 1))) 0 7 n kd) 0 8 n (gI B 0 8 a)) 0 9 n (gI B 0 9 a)) 0 10 n (gI B 0 10 a) := by
    unfold hp_MO_add_63
    rw [e37, e, cn, ca]
    simp (disch := omega) only [gI_ne, gI_eq, gI_sL, gI_sR, gI_nx, gI_w1n, gI_w1e]
  have e91 : hp_MO_add_91 B (nI a) kd mk lim = sI (sI (sI (sI (sI (sI (sI B 0 6 2 (nI (n + 1))) 0 7 n kd) 0 8 n (gI B 0 8 a)) 0 9 n (gI B 0 9 a)) 0 10 n (gI B 0 10 a)) 0 11 n (gI B 0 11 a)) 0 12 n (gI B 0 12 a ||| mk) := by
    unfold hp_MO_add_91
    rw [e63, e, cn, ca]
    simp (disch := omega) only [gI_ne, gI_eq, gI_sL, gI_sR, gI_nx, gI_w1n, gI_w1e]
  have e134 : m_MO_add_134 B (nI a) kd mk lim = adE B a lim := by
    unfold m_MO_add_134 adE
    rw [e91, ca]
    simp (disch := omega) only [gI_ne, gI_eq, gI_sL, gI_sR, gI_nx, gI_w1n, gI_w1e]
  have e148 : hp_MO_add_148 B (nI a) kd mk lim = sI (sI (sI (sI (sI (sI (sI (sI (sI B 0 6 2 (nI (n + 1))) 0 7 n kd) 0 8 n (gI B 0 8 a)) 0 9 n (gI B 0 9 a)) 0 10 n (gI B 0 10 a)) 0 11 n (gI B 0 11 a)) 0 12 n (gI B 0 12 a ||| mk)) 0 13 n (adE B a lim)) 0 14 n (gI B 0 14 a) := by
    unfold hp_MO_add_148
    rw [e134, e91, e, cn, ca]
    simp (disch := omega) only [gI_ne, gI_eq, gI_sL, gI_sR, gI_nx, gI_w1n, gI_w1e]
  unfold f_MO_add f_MO_add_134 hp_MO_add_180
  rw [e148, e, cn]
  rfl
/-- the program's heap with one more unit -/
def kpH (A : ev_H) (kd gr rh dn ex mk pr ab : Int32) : ev_H := sI (sR (sI (sI (sI (f_UN_init (nw A 1) (cU A) kd gr rh dn ex) 1 (cU A) 7 mk) 1 (cU A) 5 pr) 1 (cU A) 6 ab) 0 1 (cU A) (vR 1 (cU A))) 0 0 3 (nI (cU A + 1))
theorem kp_eq {A : ev_H} {u : Nat} {kd mk lim : Int32} (hu : u < cU A) (hn : cU A < 48) (e : gI A 0 0 3 = nI (cU A)) : f_TB_keepProduct A u kd mk lim = (nI (cU A), kpH A kd (gI A 1 u 1) (gI A 1 u 2) (gI A 1 u 3) (if lim < gI A 1 u 4 then lim else gI A 1 u 4) (gI A 1 u 7 ||| mk) (gI A 1 u 5) (gI A 1 u 6)) := by
  have cn : (nI (cU A)).toNatClampNeg = cU A := nI_clamp (by omega)
  have e46 : hp_TB_keepProduct_46 A u kd mk lim = sI (f_UN_init (nw A 1) (cU A) kd (gI A 1 u 1) (gI A 1 u 2) (gI A 1 u 3) (if lim < gI A 1 u 4 then lim else gI A 1 u 4)) 1 (cU A) 7 (gI A 1 u 7 ||| mk) := by
    unfold hp_TB_keepProduct_46
    have w : ∀ b1 b2 b3 b4 b5, gI (f_UN_init (nw A 1) (cU A) b1 b2 b3 b4 b5) 1 u 7 = gI A 1 u 7 := fun b1 b2 b3 b4 b5 => by
      unfold f_UN_init
      simp (disch := omega) only [gI_ne, gI_eq, gI_sL, gI_sR, gI_nx, gI_w1n, gI_w1e]
    rw [w]
    simp (disch := omega) only [gI_ne, gI_eq, gI_sL, gI_sR, gI_nx, gI_w1n, gI_w1e]
  have w : ∀ b1 b2 b3 b4 b5 i j, ¬ i = cU A → gI (f_UN_init (nw A 1) (cU A) b1 b2 b3 b4 b5) 1 i j = gI A 1 i j := fun b1 b2 b3 b4 b5 i j z => by
    unfold f_UN_init
    simp (disch := omega) only [gI_ne, gI_eq, gI_sL, gI_sR, gI_nx, gI_w1n, gI_w1e]
  have w3 : ∀ b1 b2 b3 b4 b5, gI (f_UN_init (nw A 1) (cU A) b1 b2 b3 b4 b5) 0 0 3 = nI (cU A) := fun b1 b2 b3 b4 b5 => by
    unfold f_UN_init
    simp (disch := omega) only [gI_ne, gI_eq, gI_sL, gI_sR, gI_nx, gI_w1n, gI_w1e]
    exact e
  have e64 : hp_TB_keepProduct_64 A u kd mk lim = sI (sI (sI (f_UN_init (nw A 1) (cU A) kd (gI A 1 u 1) (gI A 1 u 2) (gI A 1 u 3) (if lim < gI A 1 u 4 then lim else gI A 1 u 4)) 1 (cU A) 7 (gI A 1 u 7 ||| mk)) 1 (cU A) 5 (gI A 1 u 5)) 1 (cU A) 6 (gI A 1 u 6) := by
    unfold hp_TB_keepProduct_64
    rw [e46, gI_ne (by omega), gI_ne (by omega), gI_ne (by omega), w _ _ _ _ _ _ _ (by omega), w _ _ _ _ _ _ _ (by omega)]
  unfold f_TB_keepProduct f_TB_keep
  rw [e64]
  have w4 : gI (sI (sI (sI (f_UN_init (nw A 1) (cU A) kd (gI A 1 u 1) (gI A 1 u 2) (gI A 1 u 3) (if lim < gI A 1 u 4 then lim else gI A 1 u 4)) 1 (cU A) 7 (gI A 1 u 7 ||| mk)) 1 (cU A) 5 (gI A 1 u 5)) 1 (cU A) 6 (gI A 1 u 6)) 0 0 3 = nI (cU A) := by
    rw [gI_ne (by omega), gI_ne (by omega), gI_ne (by omega), w3]
  rw [gI_eq ⟨rfl, rfl, rfl⟩, gI_sR, w4, cn, nI_1, nI_pred]
  rfl
