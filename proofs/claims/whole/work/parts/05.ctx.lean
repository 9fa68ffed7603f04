/-! where a walk stands: the launch, the law's start and its arguments, the classes' numbers and slots, array classes (0 int, 1 long, 2 Unit, 3 Patient), the old arrays (0 script, 1 ADDED_MARK, 2 PRODUCT_LIMIT): places, lengths, contents -/
abbrev ev_E : Type := Launch × State × Array Value × va_G × (Nat → ClassId) × (Nat → Nat) × (Nat → Nat) × (Nat → Nat → Int32)
def eL (E : ev_E) : Launch := E.1
def eS (E : ev_E) : State := E.2.1
def eA (E : ev_E) : Array Value := E.2.2.1
def eD (E : ev_E) : va_G := E.2.2.2.1
def eC (E : ev_E) : Nat → ClassId := E.2.2.2.2.1
def eO (E : ev_E) : Nat → Nat := E.2.2.2.2.2.1
def eN (E : ev_E) : Nat → Nat := E.2.2.2.2.2.2.1
def eX (E : ev_E) : Nat → Nat → Int32 := E.2.2.2.2.2.2.2
def eZ (E : ev_E) : Nat := (eS E).heap.size
def ZM : Nat := 4096
/-- a method: its name, bytes, locals, answer, table of handlers, and how deep its calls may go -/
abbrev ev_M : Type := MethodName × ByteArray × Nat × Option FieldType × List (Nat × Nat × Nat × Nat) × Nat
def mY (M : ev_M) : MethodName := M.1
def mB (M : ev_M) : ByteArray := M.2.1
def mL (M : ev_M) : Nat := M.2.2.1
def mR (M : ev_M) : Option FieldType := M.2.2.2.1
def mH (M : ev_M) : List (Nat × Nat × Nat × Nat) := M.2.2.2.2.1
def mD (M : ev_M) : Nat := M.2.2.2.2.2
def fv (h : ev_H) (ci k i f : Nat) : ev_V := cond (isI ci f) (vI (gI h k i f)) (gR h k i f)
theorem arrV_congr {cA : ClassId} {n : Nat} {f g : Nat → Value} (q : ∀ j, j < n → f j = g j) : arrV cA n f = arrV cA n g := by
  have e : (Array.ofFn (n := n) fun j => f j.val) = Array.ofFn (n := n) fun j => g j.val := by
    congr 1
    funext j
    exact q j.val j.isLt
  unfold arrV
  rw [e]
/-- a live cell in the machine's heap -/
def cr (E : ev_E) (ad : Nat → Nat → Nat) (h : ev_H) (k i : Nat) (H : Heap) : Prop :=
  ((shp k i).1 = 0 → t_OB (ad k i) ((eD E).1 (shp k i).2) (nfl (shp k i).2) ((eD E).2 (shp k i).2) H (fun f => cv ad (fv h (shp k i).2 k i f)) ∧ ∀ f, f < nfl (shp k i).2 → lvV h (fv h (shp k i).2 k i f)) ∧
  ((shp k i).1 = 1 → H[ad k i]? = some (arrV (eC E 0) (shp k i).2 (fun j => .int (gI h k i j)))) ∧
  ((shp k i).1 = 2 → H[ad k i]? = some (arrV (eC E 1) (shp k i).2 (fun j => .long (gL h k i j)))) ∧
  (3 ≤ (shp k i).1 → H[ad k i]? = some (arrV (eC E ((shp k i).1 - 1)) (shp k i).2 (fun j => cv ad (gR h k i j))) ∧ ∀ j, j < (shp k i).2 → lvV h (gR h k i j))
theorem cr_kept {E : ev_E} {ad ad' : Nat → Nat → Nat} {h h' : ev_H} {k i : Nat} {H H' : Heap} (hx : xt ad h ad' h') (ha : ad' k i = ad k i) (hq : H'[ad k i]? = H[ad k i]?) (hI : ∀ j, gI h' k i j = gI h k i j) (hR : ∀ j, gR h' k i j = gR h k i j) (hL : ∀ j, gL h' k i j = gL h k i j) (c : cr E ad h k i H) : cr E ad' h' k i H' := by
  obtain ⟨c0, c1, c2, c3⟩ := c
  have hf : ∀ ci f, fv h' ci k i f = fv h ci k i f := fun ci f => by unfold fv; rw [hI, hR]
  refine ⟨fun z => ?_, fun z => ?_, fun z => ?_, fun z => ?_⟩
  · obtain ⟨q1, q2⟩ := c0 z
    refine ⟨?_, fun f hf' => ?_⟩
    · rw [ha]
      refine (q1.kept hq).to fun f hf' => ?_
      rw [hf]
      exact ((hx.V (q2 f hf')).2).symm
    · rw [hf]
      exact (hx.V (q2 f hf')).1
  · rw [ha, hq, c1 z]
    congr 2
    funext j
    rw [hI]
  · rw [ha, hq, c2 z]
    congr 2
    funext j
    rw [hL]
  · obtain ⟨q1, q2⟩ := c3 z
    refine ⟨?_, fun j hj => ?_⟩
    · rw [ha, hq, q1]
      refine congrArg some (arrV_congr fun j hj => ?_)
      rw [hR]
      exact ((hx.V (q2 j hj)).2).symm
    · rw [hR]
      exact (hx.V (q2 j hj)).1
/-- the run's heap in the machine's -/
def Rl (E : ev_E) (ad : Nat → Nat → Nat) (h : ev_H) (H : Heap) : Prop :=
  H.size = eZ E + cZ h ∧ cZ h ≤ ZM ∧ (∀ q, q < eZ E → H[q]? = (eS E).heap[q]?) ∧ (∀ i, i < 3 → ad 5 i = eO E i) ∧
  (∀ k i, k < 4 → i < cnt h k → eZ E ≤ ad k i ∧ ad k i < H.size ∧ cr E ad h k i H) ∧
  (∀ k i k' i', k < 4 → k' < 4 → i < cnt h k → i' < cnt h k' → ad k i = ad k' i' → k = k' ∧ i = i')
theorem cnt_eq {h h' : ev_H} (q : h'.2.2.2 = h.2.2.2) (k : Nat) : cnt h' k = cnt h k := by
  unfold cnt cF cU cP cN; rw [q]
theorem xt_eq {ad : Nat → Nat → Nat} {h h' : ev_H} (q : h'.2.2.2 = h.2.2.2) : xt ad h ad h' := by
  intro k i z
  refine ⟨?_, fun _ => rfl⟩
  unfold lvs at z ⊢
  rw [cnt_eq q]
  exact z
/-- one cell is written -/
theorem Rl.st {E : ev_E} {ad : Nat → Nat → Nat} {h h' : ev_H} {H H' : Heap} {k i : Nat} (hR : Rl E ad h H) (hk : k < 4) (hi : i < cnt h k) (hz : H'.size = H.size) (ho : ∀ q, q ≠ ad k i → H'[q]? = H[q]?) (hc : h'.2.2.2 = h.2.2.2)
    (hm : ∀ k' i' j, ¬ (k' = k ∧ i' = i) → gI h' k' i' j = gI h k' i' j ∧ gR h' k' i' j = gR h k' i' j ∧ gL h' k' i' j = gL h k' i' j) (hcr : cr E ad h' k i H') : Rl E ad h' H' := by
  obtain ⟨r1, r2, r3, r4, r5, r6⟩ := hR
  have hZ : cZ h' = cZ h := by unfold cZ; rw [hc]
  refine ⟨by rw [hz, hZ]; exact r1, by rw [hZ]; exact r2, fun q hq => ?_, r4, fun k' i' a b => ?_, fun k1 i1 k2 i2 a b c d => ?_⟩
  · rw [ho q]
    · exact r3 q hq
    · have := (r5 k i hk hi).1
      omega
  · rw [cnt_eq hc] at b
    obtain ⟨q1, q2, q3⟩ := r5 k' i' a b
    refine ⟨q1, by rw [hz]; exact q2, ?_⟩
    by_cases e : k' = k ∧ i' = i
    · obtain ⟨rfl, rfl⟩ := e
      exact hcr
    · refine cr_kept (xt_eq hc) rfl (ho _ fun z => e (r6 k' i' k i a hk b hi z)) (fun j => (hm k' i' j e).1) (fun j => (hm k' i' j e).2.1) (fun j => (hm k' i' j e).2.2) q3
  · rw [cnt_eq hc] at c d
    exact r6 k1 i1 k2 i2 a b c d
def adN (ad : Nat → Nat → Nat) (k i a : Nat) : Nat → Nat → Nat := fun x y => if x = k ∧ y = i then a else ad x y
theorem cnt_nw (h : ev_H) (k k' : Nat) (hk : k < 4) (hk' : k' < 4) : cnt (nw h k) k' = cnt h k' + (if k' = k then 1 else 0) := by
  have e : k = 0 ∨ k = 1 ∨ k = 2 ∨ k = 3 := by omega
  have e' : k' = 0 ∨ k' = 1 ∨ k' = 2 ∨ k' = 3 := by omega
  rcases e with rfl | rfl | rfl | rfl <;> rcases e' with rfl | rfl | rfl | rfl <;> rfl
theorem xt_nw {ad : Nat → Nat → Nat} {h : ev_H} {k a : Nat} (hk : k < 4) : xt ad h (adN ad k (cnt h k) a) (nw h k) := by
  intro k' i z
  refine ⟨?_, fun _ => ?_⟩
  · rcases z with z | z | ⟨z1, z2⟩
    · exact Or.inl z
    · exact Or.inr (Or.inl z)
    · refine Or.inr (Or.inr ⟨z1, ?_⟩)
      rw [cnt_nw h k k' hk z1]
      omega
  · unfold adN
    rw [if_neg]
    rintro ⟨rfl, rfl⟩
    rcases z with z | z | ⟨z1, z2⟩
    · omega
    · omega
    · omega
/-- one cell is made -/
theorem Rl.new1 {E : ev_E} {ad : Nat → Nat → Nat} {h : ev_H} {H H' : Heap} {k : Nat} (hR : Rl E ad h H) (hk : k < 4) (hZ : cZ h < ZM) (hz : H'.size = H.size + 1) (ho : ∀ q, q < H.size → H'[q]? = H[q]?)
    (hcr : cr E (adN ad k (cnt h k) H.size) (nw h k) k (cnt h k) H') : Rl E (adN ad k (cnt h k) H.size) (nw h k) H' := by
  obtain ⟨r1, r2, r3, r4, r5, r6⟩ := hR
  have hx : xt ad h (adN ad k (cnt h k) H.size) (nw h k) := xt_nw hk
  have hold : ∀ k' i', k' < 4 → i' < cnt (nw h k) k' → (k' = k ∧ i' = cnt h k) ∨ (i' < cnt h k' ∧ ¬ (k' = k ∧ i' = cnt h k)) := by
    intro k' i' a b
    rw [cnt_nw h k k' hk a] at b
    by_cases e : k' = k ∧ i' = cnt h k
    · exact Or.inl e
    · refine Or.inr ⟨?_, e⟩
      by_cases e2 : k' = k
      · subst e2
        rw [if_pos rfl] at b
        have : ¬ i' = cnt h k' := fun z => e ⟨rfl, z⟩
        omega
      · rw [if_neg e2] at b
        omega
  have hZ' : cZ (nw h k) = cZ h + 1 := rfl
  refine ⟨by rw [hz, hZ', r1]; omega, by rw [hZ']; exact hZ, fun q hq => ?_, fun i hi => ?_, fun k' i' a b => ?_, fun k1 i1 k2 i2 a b c d e => ?_⟩
  · rw [ho q (by omega)]
    exact r3 q hq
  · show (if 5 = k ∧ i = cnt h k then H.size else ad 5 i) = _
    rw [if_neg (by omega)]
    exact r4 i hi
  · rcases hold k' i' a b with ⟨rfl, rfl⟩ | ⟨e1, e2⟩
    · have : adN ad k' (cnt h k') H.size k' (cnt h k') = H.size := by unfold adN; rw [if_pos ⟨rfl, rfl⟩]
      refine ⟨by rw [this]; omega, by rw [this]; omega, hcr⟩
    · obtain ⟨q1, q2, q3⟩ := r5 k' i' a e1
      have e3 : adN ad k (cnt h k) H.size k' i' = ad k' i' := by unfold adN; rw [if_neg e2]
      refine ⟨by rw [e3]; exact q1, by rw [e3]; omega, ?_⟩
      refine cr_kept hx e3 (ho _ q2) (fun j => ?_) (fun j => ?_) (fun j => ?_) q3
      · show (if k' = k ∧ i' = cnt h k then _ else _) = _
        rw [if_neg e2]; rfl
      · show (if k' = k ∧ i' = cnt h k then _ else _) = _
        rw [if_neg e2]; rfl
      · show (if k' = k ∧ i' = cnt h k then _ else _) = _
        rw [if_neg e2]; rfl
  · rcases hold k1 i1 a c with ⟨rfl, rfl⟩ | ⟨e1, e2⟩
    · rcases hold k2 i2 b d with ⟨rfl, rfl⟩ | ⟨e3, e4⟩
      · exact ⟨rfl, rfl⟩
      · exfalso
        unfold adN at e
        rw [if_pos ⟨rfl, rfl⟩, if_neg e4] at e
        have := (r5 k2 i2 b e3).2.1
        omega
    · rcases hold k2 i2 b d with ⟨rfl, rfl⟩ | ⟨e3, e4⟩
      · exfalso
        unfold adN at e
        rw [if_neg e2, if_pos ⟨rfl, rfl⟩] at e
        have := (r5 k1 i1 a e1).2.1
        omega
      · unfold adN at e
        rw [if_neg e2, if_neg e4] at e
        exact r6 k1 i1 k2 i2 a b e1 e3 e
theorem xt_nx {ad : Nat → Nat → Nat} {h : ev_H} : xt ad h ad (nx h) := fun _ _ z => ⟨z, fun _ => rfl⟩
theorem Rl.thr1 {E : ev_E} {ad : Nat → Nat → Nat} {h : ev_H} {H H' : Heap} (hR : Rl E ad h H) (hZ : cZ h < ZM) (hz : H'.size = H.size + 1) (ho : ∀ q, q < H.size → H'[q]? = H[q]?) : Rl E ad (nx h) H' := by
  obtain ⟨r1, r2, r3, r4, r5, r6⟩ := hR
  have hZ' : cZ (nx h) = cZ h + 1 := rfl
  refine ⟨by rw [hz, hZ', r1]; omega, by rw [hZ']; exact hZ, fun q hq => ?_, r4, fun k' i' a b => ?_, r6⟩
  · rw [ho q (by omega)]
    exact r3 q hq
  · obtain ⟨q1, q2, q3⟩ := r5 k' i' a b
    exact ⟨q1, by omega, cr_kept xt_nx rfl (ho _ q2) (fun _ => rfl) (fun _ => rfl) (fun _ => rfl) q3⟩
