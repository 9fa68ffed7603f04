/-! rows that read and write the heap, and make cells -/
def vNm (ci : Nat) : String := cond (Nat.beq ci 0) "TypedBlood" (cond (Nat.beq ci 1) "TypedBlood$Unit" (cond (Nat.beq ci 2) "TypedBlood$Patient" (cond (Nat.beq ci 3) "TypedBlood$Ranking" "TypedBloodModel")))
def vT (ci : Nat) : u_T := cond (Nat.beq ci 0) T0 (cond (Nat.beq ci 1) T1 (cond (Nat.beq ci 2) T2 (cond (Nat.beq ci 3) T3 T4)))
theorem vC_at {ci : Nat} (q : ci < 5) : vC[ci]? = some (vNm ci, vT ci, nfl ci) := by
  rcases ev_five q with rfl | rfl | rfl | rfl | rfl <;> rfl
theorem vT_ty {ci : Nat} (q : ci < 5) : ∀ f, f < nfl ci → parseFieldDescriptor (vT ci f).2.2.1 = some (fty ci f) := by
  rcases ev_five q with rfl | rfl | rfl | rfl | rfl
  · exact T0_ty
  · exact T1_ty
  · exact T2_ty
  · exact T3_ty
  · exact T4_ty
theorem vT_nm {ci : Nat} (q : ci < 5) : ∀ a, a < nfl ci → ∀ b, b < nfl ci → a ≠ b → (vT ci a).2.1 ≠ (vT ci b).2.1 := by
  rcases ev_five q with rfl | rfl | rfl | rfl | rfl
  · exact T0_nm
  · exact T1_nm
  · exact T2_nm
  · exact T3_nm
  · exact T4_nm
theorem vT_dc {ci : Nat} (q : ci < 5) : ∀ f, f < nfl ci → (vT ci f).1 = vNm ci := by
  rcases ev_five q with rfl | rfl | rfl | rfl | rfl
  · exact T0_dc
  · exact T1_dc
  · exact T2_dc
  · exact T3_dc
  · exact T4_dc
theorem vT_in {ci : Nat} (q : ci < 5) : ∀ w ∈ u_ws (vNm ci) (vT ci) (nfl ci), w ∈ lw_tbl.filter goodWord := by
  have key : ∀ f, f < nfl ci → u_lay (vNm ci) (vT ci) f ∈ lw_tbl.filter goodWord := by
    rcases ev_five q with rfl | rfl | rfl | rfl | rfl
    · exact T0_in
    · exact T1_in
    · exact T2_in
    · exact T3_in
    · exact T4_in
  intro w hw
  obtain ⟨f, hf, rfl⟩ := List.mem_map.mp hw
  exact key f (List.mem_range.mp hf)
theorem nfl_le (ci : Nat) : nfl ci ≤ 26 := by
  unfold nfl
  cases Nat.beq ci 0 <;> cases Nat.beq ci 1 <;> cases Nat.beq ci 2 <;> cases Nat.beq ci 3 <;> decide
def fld (own : String) (idx ci f : Nat) : Prop := ci < 5 ∧ f < nfl ci ∧ wd (.fieldLink own idx (vNm ci) (vT ci f).2.1 (vT ci f).2.2.1)
def nwd (own : String) (idx ci : Nat) : Prop := ci < 5 ∧ wd (.classLink own idx (vNm ci)) ∧ wd (.instantiable (vNm ci) (nfl ci)) ∧ wd (.initialized (vNm ci))
section EvD
variable {E : ev_E} {M : ev_M} {p : Program} {R : Room} {s : State} {m : MethodId} {meth : Method} {c : Code} {H : Heap} {locs : List Loc} {cells slots : Nat} {ad ad0 : Nat → Nat → Nat} {h h0 : ev_H}
theorem ev_obj (hC : ev_C E M p R s m meth c H locs cells slots ad ad0 h h0) {k i : Nat} (hk : Nat.blt k 4 = true) (hl : lvV h (vR k i)) : k < 4 ∧ i < cnt h k ∧ cv ad (vR k i) = .ref (ad k i) ∧ eZ E ≤ ad k i ∧ ad k i < H.size ∧ cr E ad h k i H := by
  have hk4 : k < 4 := by simpa [Nat.blt_eq] using hk
  have hi : i < cnt h k := by
    rcases (show lvs h k i from hl) with z | ⟨z, -⟩ | ⟨-, z⟩
    · omega
    · omega
    · exact z
  obtain ⟨q1, q2, q3⟩ := hC.2.2.1.2.2.2.2.1 k i hk4 hi
  refine ⟨hk4, hi, ?_, q1, q2, q3⟩
  show (if k = 4 then Value.ref i else Value.ref (ad k i)) = _
  rw [if_neg (by omega)]
theorem ev_cls (hC : ev_C E M p R s m meth c H locs cells slots ad ad0 h h0) {ci : Nat} (q : ci < 5) : u_Kn s (vNm ci) (vT ci) (nfl ci) ((eD E).1 ci) ((eD E).2 ci) := hC.K.1 ci _ (vC_at q)
theorem ev_C.mk (hC : ev_C E M p R s m meth c H locs cells slots ad ad0 h h0) {H' : Heap} {locs' : List Loc} {ad' : Nat → Nat → Nat} {h' : ev_H} (hR : Rl E ad' h' H') (hz : s.heap.size ≤ H'.size) (hl : ∀ q ∈ locs', eZ E ≤ q.base) (hx : xt ad h ad' h') :
    ev_C E M p R s m meth c H' locs' (H'.size - s.heap.size) (512 * (H'.size - s.heap.size)) ad' ad0 h' h0 := ⟨hC.1, hC.2.1, hR, hz, rfl, rfl, hl, hC.2.2.2.2.2.2.2.tr hx⟩
theorem ev_locs (hC : ev_C E M p R s m meth c H locs cells slots ad ad0 h h0) {a i : Nat} (ha : eZ E ≤ a) : ∀ q ∈ locs ++ [⟨a, i⟩], eZ E ≤ q.base := by
  intro q hq
  rcases List.mem_append.mp hq with z | z
  · exact hC.2.2.2.2.2.2.1 q z
  · rw [List.mem_singleton.mp z]
    exact ha
theorem ev_room (hC : ev_C E M p R s m meth c H locs cells slots ad ad0 h h0) (hZ : cZ h < ZM) {N : Nat} (hN : N ≤ 512) : cells + 1 ≤ R.cells ∧ slots + N ≤ R.slots := by
  obtain ⟨-, ⟨-, -, -, -, -, -, -, -, -, -, i11, -, -, i14, i15⟩, ⟨r1, -⟩, z1, z2, z3, -⟩ := hC
  constructor
  · omega
  · omega
/-- a slot of an object is written -/
theorem ev_stored (hC : ev_C E M p R s m meth c H locs cells slots ad ad0 h h0) {k i ci f : Nat} (hk : Nat.blt k 4 = true) (hl : lvV h (vR k i)) (hs : shp k i = (0, ci)) {h' : ev_H} {v : ev_V} (hc : h'.2.2.2 = h.2.2.2)
    (hm : ∀ k' i' j, ¬ (k' = k ∧ i' = i) → gI h' k' i' j = gI h k' i' j ∧ gR h' k' i' j = gR h k' i' j ∧ gL h' k' i' j = gL h k' i' j) (hv : fv h' ci k i f = v) (ho : ∀ j, j ≠ f → fv h' ci k i j = fv h ci k i j) (hlv : lvV h v)
    {H' : Heap} (hz : H'.size = H.size) (hoq : ∀ q, q ≠ ad k i → H'[q]? = H[q]?) (hob : t_OB (ad k i) ((eD E).1 ci) (nfl ci) ((eD E).2 ci) H' (updV (fun f => cv ad (fv h ci k i f)) f (cv ad v))) : Rl E ad h' H' := by
  obtain ⟨k4, hi, -, q1, q2, q3⟩ := ev_obj hC hk hl
  have hx : xt ad h ad h' := xt_eq hc
  refine hC.2.2.1.st k4 hi hz hoq hc hm ⟨fun _ => ?_, fun z => ?_, fun z => ?_, fun z => ?_⟩
  · rw [hs]
    have c0 := (q3.1 (by rw [hs])).2
    rw [hs] at c0
    refine ⟨hob.to fun j _ => ?_, fun j hj => ?_⟩
    · by_cases e : j = f
      · subst e
        show (if j = j then _ else _) = _
        rw [if_pos rfl, hv]
      · show (if j = f then _ else _) = _
        rw [if_neg e, ho j e]
    · by_cases e : j = f
      · subst e
        rw [hv]
        exact (hx.V hlv).1
      · rw [ho j e]
        exact (hx.V (c0 j hj)).1
  · rw [hs] at z; cases z
  · rw [hs] at z; cases z
  · rw [hs] at z; exact absurd z (by simp)
end EvD
section EvR
variable {E : ev_E} {M : ev_M} {pc : Nat} {ls : List (Nat × ev_V)} {st : List ev_V} {h : ev_H} {P : Option ev_V ⊕ Nat → ev_H → Prop}
theorem Ev_get {k i ci f idx : Nat} {v : ev_V} (hd : decode (mB M) pc = .ok (.getfield idx, 3)) (hk : Nat.blt k 4 = true) (hs : shp k i = (0, ci)) (hf : fld (mY M).cls idx ci f) (hv : fv h ci k i f = v) (kk : Ev E M (pc + 3) ls (v :: st) h P) : Ev E M pc ls (vR k i :: st) h P := by
  intro p e R s m args below meth c H locs cells slots lsA ad ad0 h0 hC hL hS
  obtain ⟨k4, hi, hz, q1, q2, q3⟩ := ev_obj hC hk (lvS_1 hS)
  have c0 := q3.1 (by rw [hs])
  rw [hs] at c0
  obtain ⟨⟨cell, o1, o2, o3, o4⟩, o5⟩ := c0
  obtain ⟨hS', hfc, kC, hkC, hkind⟩ := ev_cls hC hf.1
  obtain ⟨cf, kf, fi, fd, hi', hsl⟩ := hS' f hf.2.1
  have hst := (u_facts hfc hkC (u_lays (hC.hts args) (vT_in hf.1) hf.2.1) hi').1
  rw [vT_dc hf.1 f hf.2.1] at hi'
  rw [List.map_cons, hz]
  have hlv : lvV h v := hv ▸ o5 f hf.2.1
  refine W.getf hC.ex hC.cd hC.own (hC.w hf.2.2 args) hi' hst o1 (by rw [o3]; exact fun z => by cases z) (v := cv ad v) ?_ rfl rfl hd (kk p e R s m args below meth c H locs cells slots lsA ad ad0 h0 hC hL (lvS_c hlv (lvS_2 hS)))
  rw [hsl, o4 f hf.2.1, ← hv]
theorem Ev_getI {k i ci f idx : Nat} (hd : decode (mB M) pc = .ok (.getfield idx, 3)) (hk : Nat.blt k 4 = true) (hs : shp k i = (0, ci)) (hi : isI ci f = true) (hf : fld (mY M).cls idx ci f) (kk : Ev E M (pc + 3) ls (vI (gI h k i f) :: st) h P) : Ev E M pc ls (vR k i :: st) h P :=
  Ev_get hd hk hs hf (by unfold fv; rw [hi]; rfl) kk
theorem Ev_getR {k i ci f idx : Nat} {v : ev_V} (hd : decode (mB M) pc = .ok (.getfield idx, 3)) (hk : Nat.blt k 4 = true) (hs : shp k i = (0, ci)) (hi : isI ci f = false) (hf : fld (mY M).cls idx ci f) (hv : gR h k i f = v) (kk : Ev E M (pc + 3) ls (v :: st) h P) : Ev E M pc ls (vR k i :: st) h P :=
  Ev_get hd hk hs hf (by unfold fv; rw [hi]; exact hv) kk
theorem fv_sI {h : ev_H} {ci k i f : Nat} {x : Int32} (hi : isI ci f = true) : fv (sI h k i f x) ci k i f = vI x := by
  unfold fv
  rw [hi]
  show vI (if k = k ∧ i = i ∧ f = f then x else _) = _
  rw [if_pos ⟨rfl, rfl, rfl⟩]
theorem fv_sIo {h : ev_H} {ci k i f j : Nat} {x : Int32} (hj : j ≠ f) : fv (sI h k i f x) ci k i j = fv h ci k i j := by
  unfold fv
  have e : gI (sI h k i f x) k i j = gI h k i j := by
    show (if k = k ∧ i = i ∧ j = f then x else _) = _
    rw [if_neg fun z => hj z.2.2]; rfl
  rw [e]; rfl
theorem fv_sR {h : ev_H} {ci k i f : Nat} {v : ev_V} (hi : isI ci f = false) : fv (sR h k i f v) ci k i f = v := by
  unfold fv
  rw [hi]
  show (if k = k ∧ i = i ∧ f = f then v else _) = _
  rw [if_pos ⟨rfl, rfl, rfl⟩]
theorem fv_sRo {h : ev_H} {ci k i f j : Nat} {v : ev_V} (hj : j ≠ f) : fv (sR h k i f v) ci k i j = fv h ci k i j := by
  unfold fv
  have e : gR (sR h k i f v) k i j = gR h k i j := by
    show (if k = k ∧ i = i ∧ j = f then v else _) = _
    rw [if_neg fun z => hj z.2.2]; rfl
  rw [e]; rfl
theorem sI_m {h : ev_H} {k i f : Nat} {x : Int32} : ∀ k' i' j, ¬ (k' = k ∧ i' = i) → gI (sI h k i f x) k' i' j = gI h k' i' j ∧ gR (sI h k i f x) k' i' j = gR h k' i' j ∧ gL (sI h k i f x) k' i' j = gL h k' i' j := by
  intro k' i' j q
  refine ⟨?_, rfl, rfl⟩
  show (if k' = k ∧ i' = i ∧ j = f then x else _) = _
  rw [if_neg fun z => q ⟨z.1, z.2.1⟩]; rfl
theorem sR_m {h : ev_H} {k i f : Nat} {v : ev_V} : ∀ k' i' j, ¬ (k' = k ∧ i' = i) → gI (sR h k i f v) k' i' j = gI h k' i' j ∧ gR (sR h k i f v) k' i' j = gR h k' i' j ∧ gL (sR h k i f v) k' i' j = gL h k' i' j := by
  intro k' i' j q
  refine ⟨rfl, ?_, rfl⟩
  show (if k' = k ∧ i' = i ∧ j = f then v else _) = _
  rw [if_neg fun z => q ⟨z.1, z.2.1⟩]; rfl
theorem sL_m {h : ev_H} {k i f : Nat} {v : Int64} : ∀ k' i' j, ¬ (k' = k ∧ i' = i) → gI (sL h k i f v) k' i' j = gI h k' i' j ∧ gR (sL h k i f v) k' i' j = gR h k' i' j ∧ gL (sL h k i f v) k' i' j = gL h k' i' j := by
  intro k' i' j q
  refine ⟨rfl, rfl, ?_⟩
  show (if k' = k ∧ i' = i ∧ j = f then v else _) = _
  rw [if_neg fun z => q ⟨z.1, z.2.1⟩]; rfl
/-- a field that is not final takes an int -/
theorem Ev_putI {k i ci f idx : Nat} {x : Int32} (hd : decode (mB M) pc = .ok (.putfield idx, 3)) (hk : Nat.blt k 4 = true) (hs : shp k i = (0, ci)) (hi : isI ci f = true) (hf : fld (mY M).cls idx ci f) (hfin : (vT ci f).2.2.2 = false) (kk : Ev E M (pc + 3) ls st (sI h k i f x) P) : Ev E M pc ls (vI x :: vR k i :: st) h P := by
  intro p e R s m args below meth c H locs cells slots lsA ad ad0 h0 hC hL hS
  have hlv := lvS_1 (lvS_2 hS)
  obtain ⟨k4, hi4, hz, q1, q2, q3⟩ := ev_obj hC hk hlv
  have c0 := q3.1 (by rw [hs])
  rw [hs] at c0
  obtain ⟨⟨cell, o1, o2, o3, o4⟩, o5⟩ := c0
  obtain ⟨hS', hfc, kC, hkC, hkind⟩ := ev_cls hC hf.1
  have hap := va_apart (D := eD E) (own := (mY M).cls) (hC.hts args) (vT_in hf.1) (fty ci) (vT_ty hf.1) (vT_nm hf.1) hC.K (vC_at hf.1)
  obtain ⟨cf, kf, fi, fd, hi', hsl⟩ := hS' f hf.2.1
  have hst := (u_facts hfc hkC (u_lays (hC.hts args) (vT_in hf.1) hf.2.1) hi').1
  have hlay := hC.hts args _ (vT_in hf.1 _ (u_in_lay hf.2.1))
  unfold u_lay at hlay
  rw [if_neg (by rw [hfin]; decide)] at hlay
  have hty : fty ci f = .int := by unfold fty; rw [hi]; rfl
  have h6 := u_store (v := .int x) hfc hkC hkind hlay hi' (by rw [vT_ty hf.1 f hf.2.1, hty]) rfl rfl
  rw [vT_dc hf.1 f hf.2.1] at hi'
  rw [List.map_cons, List.map_cons, hz]
  refine W.putK hC.ex hC.cd (f := fd) ⟨hC.own, hC.w hf.2.2 args, ⟨_, _, _, hi'⟩, hst⟩ (by rw [o2]; exact h6) o1 o3 (by rw [hsl]; exact k2_hasslot (o4 f hf.2.1)) rfl rfl hd fun H' e1 e2 e3 => ?_
  rw [hsl] at e1
  have hR := ev_stored hC hk hlv hs (h' := sI h k i f x) rfl sI_m (fv_sI hi) (fun j hj => fv_sIo hj) trivial e2 e3 ⟨_, e1, o2, o3, t_set o4 hap hf.2.1 (.int x)⟩
  have hx : xt ad h ad (sI h k i f x) := xt_eq rfl
  refine W.cs (by rw [e2]; exact hC.2.2.2.2.1) (by rw [e2]; exact hC.2.2.2.2.2.1) (kk p e R s m args below meth c H' _ _ _ lsA ad ad0 h0 (hC.mk hR (by rw [e2]; exact hC.2.2.2.1) (ev_locs hC q1) hx) (hL.mv hx) (hx.S (lvS_2 (lvS_2 hS))).1)
/-- a final field takes its value in a constructor -/
theorem ev_putF {k i ci f idx : Nat} {v : ev_V} {h' : ev_H} {ty : FieldType} (hd : decode (mB M) pc = .ok (.putfield idx, 3)) (hk : Nat.blt k 4 = true) (hs : shp k i = (0, ci)) (hf : fld (mY M).cls idx ci f) (hfin : (vT ci f).2.2.2 = true) (hin : (mY M).name = "<init>") (hcl : (mY M).cls = vNm ci)
    (hty : fty ci f = ty) (hnar : ∀ ad, narrow ty (cv ad v) = cv ad v) (hfit : ∀ ad, fits ty (cv ad v) = true) (hc : h'.2.2.2 = h.2.2.2)
    (hm : ∀ k' i' j, ¬ (k' = k ∧ i' = i) → gI h' k' i' j = gI h k' i' j ∧ gR h' k' i' j = gR h k' i' j ∧ gL h' k' i' j = gL h k' i' j) (hv : fv h' ci k i f = v) (ho : ∀ j, j ≠ f → fv h' ci k i j = fv h ci k i j)
    (kk : Ev E M (pc + 3) ls st h' P) : Ev E M pc ls (v :: vR k i :: st) h P := by
  intro p e R s m args below meth c H locs cells slots lsA ad ad0 h0 hC hL hS
  have hlv := lvS_1 (lvS_2 hS)
  obtain ⟨k4, hi4, hz, q1, q2, q3⟩ := ev_obj hC hk hlv
  have c0 := q3.1 (by rw [hs])
  rw [hs] at c0
  obtain ⟨⟨cell, o1, o2, o3, o4⟩, o5⟩ := c0
  obtain ⟨hS', hfc, kC, hkC, hkind⟩ := ev_cls hC hf.1
  have hap := va_apart (D := eD E) (own := (mY M).cls) (hC.hts args) (vT_in hf.1) (fty ci) (vT_ty hf.1) (vT_nm hf.1) hC.K (vC_at hf.1)
  obtain ⟨cf, kf, fi, fd, hi', hsl⟩ := hS' f hf.2.1
  have hst := (u_facts hfc hkC (u_lays (hC.hts args) (vT_in hf.1) hf.2.1) hi').1
  have hlay := hC.hts args _ (vT_in hf.1 _ (u_in_lay hf.2.1))
  unfold u_lay at hlay
  rw [if_pos hfin] at hlay
  have hcf : m.cls = cf := by
    obtain ⟨_, _, c', _, _, _, -, -, hf', -, -, -, hown2, -⟩ := Cond.laysFinal_spec hlay
    have e1 : c' = cf := by have := hi'.symm.trans hf'; simp at this; exact this.1.symm
    rw [vT_dc hf.1 f hf.2.1, ← hcl] at hown2
    rw [← e1]; exact Option.some.inj (hC.own.symm.trans hown2)
  have h6 := u_fits (v := cv ad v) hfc hkC hkind (Or.inr hlay) hi' (by rw [vT_ty hf.1 f hf.2.1, hty]) (hnar ad) (hfit ad)
  rw [vT_dc hf.1 f hf.2.1] at hi'
  rw [List.map_cons, List.map_cons, hz]
  refine W.putFinK hC.ex hC.cd hC.own (hC.w hf.2.2 args) hi' hst hcf (hC.2.1.2.2.2.2.2.1.trans hin) (by rw [o2]; exact h6) o1 o3 (by rw [hsl]; exact k2_hasslot (o4 f hf.2.1)) rfl rfl hd fun H' e1 e2 e3 => ?_
  rw [hsl] at e1
  have hR := ev_stored hC hk hlv hs (h' := h') hc hm hv ho (lvS_1 hS) e2 e3 ⟨_, e1, o2, o3, t_set o4 hap hf.2.1 (cv ad v)⟩
  have hx : xt ad h ad h' := xt_eq hc
  refine W.cs (by rw [e2]; exact hC.2.2.2.2.1) (by rw [e2]; exact hC.2.2.2.2.2.1) (kk p e R s m args below meth c H' _ _ _ lsA ad ad0 h0 (hC.mk hR (by rw [e2]; exact hC.2.2.2.1) (ev_locs hC q1) hx) (hL.mv hx) (hx.S (lvS_2 (lvS_2 hS))).1)
theorem Ev_putIF {k i ci f idx : Nat} {x : Int32} (hd : decode (mB M) pc = .ok (.putfield idx, 3)) (hk : Nat.blt k 4 = true) (hs : shp k i = (0, ci)) (hi : isI ci f = true) (hf : fld (mY M).cls idx ci f) (hfin : (vT ci f).2.2.2 = true) (hin : (mY M).name = "<init>") (hcl : (mY M).cls = vNm ci) (kk : Ev E M (pc + 3) ls st (sI h k i f x) P) : Ev E M pc ls (vI x :: vR k i :: st) h P :=
  ev_putF (ty := .int) (h' := sI h k i f x) hd hk hs hf hfin hin hcl (by unfold fty; rw [hi]; rfl) (fun _ => rfl) (fun _ => rfl) rfl sI_m (fv_sI hi) (fun j hj => fv_sIo hj) kk
theorem cv_ref {ad : Nat → Nat → Nat} (a b : Nat) : ∃ z, cv ad (vR a b) = .ref z := by
  show ∃ z, (if a = 4 then Value.ref b else Value.ref (ad a b)) = .ref z
  by_cases h4 : a = 4
  · exact ⟨b, by rw [if_pos h4]⟩
  · exact ⟨ad a b, by rw [if_neg h4]⟩
theorem Ev_putRF {k i ci f idx a b : Nat} (hd : decode (mB M) pc = .ok (.putfield idx, 3)) (hk : Nat.blt k 4 = true) (hs : shp k i = (0, ci)) (hi : isI ci f = false) (hf : fld (mY M).cls idx ci f) (hfin : (vT ci f).2.2.2 = true) (hin : (mY M).name = "<init>") (hcl : (mY M).cls = vNm ci) (hrt : (fty ci f).isReference = true) (kk : Ev E M (pc + 3) ls st (sR h k i f (vR a b)) P) : Ev E M pc ls (vR a b :: vR k i :: st) h P := by
  refine ev_putF (ty := fty ci f) (h' := sR h k i f (vR a b)) hd hk hs hf hfin hin hcl rfl (fun ad => ?_) (fun ad => ?_) rfl sR_m (fv_sR hi) (fun j hj => fv_sRo hj) kk
  · obtain ⟨z, hz⟩ := cv_ref (ad := ad) a b
    rw [hz]
    cases hq : fty ci f <;> first | rfl | (rw [hq] at hrt; cases hrt)
  · obtain ⟨z, hz⟩ := cv_ref (ad := ad) a b
    rw [hz]
    cases hq : fty ci f <;> first | rfl | (rw [hq] at hrt; cases hrt)
/-- an int array's place -/
theorem Ev_iald {k i n : Nat} {x : Int32} (hd : decode (mB M) pc = .ok (.iaload, 1)) (hk : Nat.blt k 4 = true) (hs : shp k i = (1, n)) (h1 : ¬ x < 0) (h2 : x.toNatClampNeg < n) (kk : Ev E M (pc + 1) ls (vI (gI h k i x.toNatClampNeg) :: st) h P) : Ev E M pc ls (vI x :: vR k i :: st) h P := by
  intro p e R s m args below meth c H locs cells slots lsA ad ad0 h0 hC hL hS
  obtain ⟨k4, hi4, hz, q1, q2, q3⟩ := ev_obj hC hk (lvS_1 (lvS_2 hS))
  have c0 := q3.2.1 (by rw [hs])
  rw [hs] at c0
  rw [List.map_cons, List.map_cons, hz]
  refine W.iald hC.ex hC.cd (v := .int (gI h k i x.toNatClampNeg)) c0 ((hC.K.2 0 _ rfl).1 n _) (fun z => by cases z) ?_ (arrV_read _ _ h2) rfl rfl hd (kk p e R s m args below meth c H locs cells slots lsA ad ad0 h0 hC hL (lvS_i (lvS_2 (lvS_2 hS))))
  rw [arrV_size]
  rintro (z | z)
  · exact h1 z
  · exact absurd h2 (Nat.not_lt.mpr z)
theorem Ev_iast {k i n : Nat} {x v : Int32} (hd : decode (mB M) pc = .ok (.iastore, 1)) (hk : Nat.blt k 4 = true) (hs : shp k i = (1, n)) (h1 : ¬ x < 0) (h2 : x.toNatClampNeg < n) (kk : Ev E M (pc + 1) ls st (sI h k i x.toNatClampNeg v) P) : Ev E M pc ls (vI v :: vI x :: vR k i :: st) h P := by
  intro p e R s m args below meth c H locs cells slots lsA ad ad0 h0 hC hL hS
  have hlv := lvS_1 (lvS_2 (lvS_2 hS))
  obtain ⟨k4, hi4, hz, q1, q2, q3⟩ := ev_obj hC hk hlv
  have c0 := q3.2.1 (by rw [hs])
  rw [hs] at c0
  rw [List.map_cons, List.map_cons, List.map_cons, hz]
  refine W.iast hC.ex hC.cd c0 ((hC.K.2 0 _ rfl).1 n _) (fun z => by cases z) ?_ rfl rfl hd fun H' e1 e2 e3 => ?_
  · rw [arrV_size]
    rintro (z | z)
    · exact h1 z
    · exact absurd h2 (Nat.not_lt.mpr z)
  · have hx : xt ad h ad (sI h k i x.toNatClampNeg v) := xt_eq rfl
    have hR : Rl E ad (sI h k i x.toNatClampNeg v) H' := by
      refine hC.2.2.1.st k4 hi4 e2 e3 rfl sI_m ⟨fun z => ?_, fun _ => ?_, fun z => ?_, fun z => ?_⟩
      · rw [hs] at z; cases z
      · rw [hs, e1, arrV_store]
        refine congrArg some (arrV_congr fun j _ => ?_)
        show (if j = x.toNatClampNeg then Value.int v else _) = Value.int (if k = k ∧ i = i ∧ j = x.toNatClampNeg then v else _)
        by_cases ej : j = x.toNatClampNeg
        · rw [if_pos ej, if_pos ⟨rfl, rfl, ej⟩]
        · rw [if_neg ej, if_neg fun z => ej z.2.2]; rfl
      · rw [hs] at z; cases z
      · rw [hs] at z; exact absurd z (by simp)
    refine W.cs (by rw [e2]; exact hC.2.2.2.2.1) (by rw [e2]; exact hC.2.2.2.2.2.1) (kk p e R s m args below meth c H' _ _ _ lsA ad ad0 h0 (hC.mk hR (by rw [e2]; exact hC.2.2.2.1) (ev_locs hC q1) hx) (hL.mv hx) (hx.S (lvS_2 (lvS_2 (lvS_2 hS)))).1)
theorem Ev_lald {k i n : Nat} {x : Int32} (hd : decode (mB M) pc = .ok (.laload, 1)) (hk : Nat.blt k 4 = true) (hs : shp k i = (2, n)) (h1 : ¬ x < 0) (h2 : x.toNatClampNeg < n) (kk : Ev E M (pc + 1) ls (vL (gL h k i x.toNatClampNeg) :: st) h P) : Ev E M pc ls (vI x :: vR k i :: st) h P := by
  intro p e R s m args below meth c H locs cells slots lsA ad ad0 h0 hC hL hS
  obtain ⟨k4, hi4, hz, q1, q2, q3⟩ := ev_obj hC hk (lvS_1 (lvS_2 hS))
  have c0 := q3.2.2.1 (by rw [hs])
  rw [hs] at c0
  rw [List.map_cons, List.map_cons, hz]
  refine W.lald hC.ex hC.cd (v := .long (gL h k i x.toNatClampNeg)) c0 ((hC.K.2 1 _ rfl).1 n _) (fun z => by cases z) ?_ (arrV_read _ _ h2) rfl rfl hd (kk p e R s m args below meth c H locs cells slots lsA ad ad0 h0 hC hL (lvS_l (lvS_2 (lvS_2 hS))))
  rw [arrV_size]
  rintro (z | z)
  · exact h1 z
  · exact absurd h2 (Nat.not_lt.mpr z)
theorem Ev_last {k i n : Nat} {x : Int32} {v : Int64} (hd : decode (mB M) pc = .ok (.lastore, 1)) (hk : Nat.blt k 4 = true) (hs : shp k i = (2, n)) (h1 : ¬ x < 0) (h2 : x.toNatClampNeg < n) (kk : Ev E M (pc + 1) ls st (sL h k i x.toNatClampNeg v) P) : Ev E M pc ls (vL v :: vI x :: vR k i :: st) h P := by
  intro p e R s m args below meth c H locs cells slots lsA ad ad0 h0 hC hL hS
  have hlv := lvS_1 (lvS_2 (lvS_2 hS))
  obtain ⟨k4, hi4, hz, q1, q2, q3⟩ := ev_obj hC hk hlv
  have c0 := q3.2.2.1 (by rw [hs])
  rw [hs] at c0
  rw [List.map_cons, List.map_cons, List.map_cons, hz]
  refine W.last hC.ex hC.cd c0 ((hC.K.2 1 _ rfl).1 n _) (fun z => by cases z) ?_ rfl rfl hd fun H' e1 e2 e3 => ?_
  · rw [arrV_size]
    rintro (z | z)
    · exact h1 z
    · exact absurd h2 (Nat.not_lt.mpr z)
  · have hx : xt ad h ad (sL h k i x.toNatClampNeg v) := xt_eq rfl
    have hR : Rl E ad (sL h k i x.toNatClampNeg v) H' := by
      refine hC.2.2.1.st k4 hi4 e2 e3 rfl sL_m ⟨fun z => ?_, fun z => ?_, fun _ => ?_, fun z => ?_⟩
      · rw [hs] at z; cases z
      · rw [hs] at z; cases z
      · rw [hs, e1, arrV_store]
        refine congrArg some (arrV_congr fun j _ => ?_)
        show (if j = x.toNatClampNeg then Value.long v else _) = Value.long (if k = k ∧ i = i ∧ j = x.toNatClampNeg then v else _)
        by_cases ej : j = x.toNatClampNeg
        · rw [if_pos ej, if_pos ⟨rfl, rfl, ej⟩]
        · rw [if_neg ej, if_neg fun z => ej z.2.2]; rfl
      · rw [hs] at z; exact absurd z (by simp)
    refine W.cs (by rw [e2]; exact hC.2.2.2.2.1) (by rw [e2]; exact hC.2.2.2.2.2.1) (kk p e R s m args below meth c H' _ _ _ lsA ad ad0 h0 (hC.mk hR (by rw [e2]; exact hC.2.2.2.1) (ev_locs hC q1) hx) (hL.mv hx) (hx.S (lvS_2 (lvS_2 (lvS_2 hS)))).1)
/-- an array of Units (t = 3) or Patients (t = 4) -/
def aC (t : Nat) : String := cond (Nat.beq t 3) "TypedBlood$Unit" "TypedBlood$Patient"
theorem Ev_aald {k i t n : Nat} {x : Int32} {v : ev_V} (hd : decode (mB M) pc = .ok (.aaload, 1)) (hk : Nat.blt k 4 = true) (hs : shp k i = (t, n)) (ht : t = 3 ∨ t = 4) (h1 : ¬ x < 0) (h2 : x.toNatClampNeg < n) (hv : gR h k i x.toNatClampNeg = v) (kk : Ev E M (pc + 1) ls (v :: st) h P) : Ev E M pc ls (vI x :: vR k i :: st) h P := by
  intro p e R s m args below meth c H locs cells slots lsA ad ad0 h0 hC hL hS
  obtain ⟨k4, hi4, hz, q1, q2, q3⟩ := ev_obj hC hk (lvS_1 (lvS_2 hS))
  have c0 := q3.2.2.2 (by rw [hs]; rcases ht with rfl | rfl <;> simp)
  rw [hs] at c0
  obtain ⟨c0, c1⟩ := c0
  have hA : s.isArrayOf (arrV (eC E (t - 1)) n (fun j => cv ad (gR h k i j))) (.object (aC t)) := by
    rcases ht with rfl | rfl
    · exact (hC.K.2 2 _ rfl).1 n _
    · exact (hC.K.2 3 _ rfl).1 n _
  rw [List.map_cons, List.map_cons, hz]
  have hlv : lvV h v := hv ▸ c1 _ h2
  refine W.aald hC.ex hC.cd (v := cv ad v) c0 hA rfl (fun z => by cases z) ?_ (by rw [← hv]; exact arrV_read _ _ h2) rfl rfl hd (kk p e R s m args below meth c H locs cells slots lsA ad ad0 h0 hC hL (lvS_c hlv (lvS_2 (lvS_2 hS))))
  rw [arrV_size]
  rintro (z | z)
  · exact h1 z
  · exact absurd h2 (Nat.not_lt.mpr z)
theorem Ev_aast {k i t n a b : Nat} {x : Int32} (hd : decode (mB M) pc = .ok (.aastore, 1)) (hk : Nat.blt k 4 = true) (hs : shp k i = (t, n)) (ht : t = 3 ∨ t = 4) (ha : Nat.blt a 4 = true) (hsa : shp a b = (0, t - 2)) (h1 : ¬ x < 0) (h2 : x.toNatClampNeg < n) (kk : Ev E M (pc + 1) ls st (sR h k i x.toNatClampNeg (vR a b)) P) : Ev E M pc ls (vR a b :: vI x :: vR k i :: st) h P := by
  intro p e R s m args below meth c H locs cells slots lsA ad ad0 h0 hC hL hS
  have hlv := lvS_1 (lvS_2 (lvS_2 hS))
  have hlb := lvS_1 hS
  obtain ⟨k4, hi4, hz, q1, q2, q3⟩ := ev_obj hC hk hlv
  obtain ⟨-, -, hzb, -, -, p3⟩ := ev_obj hC ha hlb
  have c0 := q3.2.2.2 (by rw [hs]; rcases ht with rfl | rfl <;> simp)
  rw [hs] at c0
  obtain ⟨c0, c1⟩ := c0
  have d0 := p3.1 (by rw [hsa])
  rw [hsa] at d0
  obtain ⟨⟨cellV, g1, g2, g3, -⟩, -⟩ := d0
  have hcls : ClassAt s (aC t) ((eD E).1 (t - 2)) := by
    rcases ht with rfl | rfl
    · exact (ev_cls hC (ci := 1) (by decide)).2
    · exact (ev_cls hC (ci := 2) (by decide)).2
  have hRA : va_RA s (eC E (t - 1)) (.object (aC t)) := by
    rcases ht with rfl | rfl
    · exact (hC.K.2 2 _ rfl).2
    · exact (hC.K.2 3 _ rfl).2
  obtain ⟨kA, comp, k1, k2, k3, -⟩ := hRA
  have hcomp : comp = (eD E).1 (t - 2) := Option.some.inj (k3.symm.trans hcls.1)
  subst hcomp
  obtain ⟨kC, hkC, -⟩ := hcls.2
  rw [List.map_cons, List.map_cons, List.map_cons, hz, hzb]
  refine W.aast hC.ex hC.cd c0 (fun q z => by cases z) (fun z => by cases z) k1 k2 rfl hkC ⟨h1, by rw [arrV_size]; exact h2⟩ g1 (fun q z => by rw [g3] at z; cases z) (by rw [g2]; exact hkC) (by rw [g2]; exact va_assign hcls) rfl rfl hd fun H' e1 e2 e3 => ?_
  have hx : xt ad h ad (sR h k i x.toNatClampNeg (vR a b)) := xt_eq rfl
  have hR : Rl E ad (sR h k i x.toNatClampNeg (vR a b)) H' := by
    refine hC.2.2.1.st k4 hi4 e2 e3 rfl sR_m ⟨fun z => ?_, fun z => ?_, fun z => ?_, fun _ => ⟨?_, fun j hj => ?_⟩⟩
    · rw [hs] at z; rcases ht with rfl | rfl <;> cases z
    · rw [hs] at z; rcases ht with rfl | rfl <;> cases z
    · rw [hs] at z; rcases ht with rfl | rfl <;> cases z
    · rw [hs, e1, arrV_store]
      refine congrArg some (arrV_congr fun j _ => ?_)
      show (if j = x.toNatClampNeg then Value.ref (ad a b) else _) = cv ad (if k = k ∧ i = i ∧ j = x.toNatClampNeg then vR a b else _)
      by_cases ej : j = x.toNatClampNeg
      · rw [if_pos ej, if_pos ⟨rfl, rfl, ej⟩, hzb]
      · rw [if_neg ej, if_neg fun z => ej z.2.2]; rfl
    · rw [hs] at hj
      show lvV _ (if k = k ∧ i = i ∧ j = x.toNatClampNeg then vR a b else _)
      by_cases ej : j = x.toNatClampNeg
      · rw [if_pos ⟨rfl, rfl, ej⟩]
        exact (hx.V hlb).1
      · rw [if_neg fun z => ej z.2.2]
        exact (hx.V (c1 j hj)).1
  refine W.cs (by rw [e2]; exact hC.2.2.2.2.1) (by rw [e2]; exact hC.2.2.2.2.2.1) (kk p e R s m args below meth c H' _ _ _ lsA ad ad0 h0 (hC.mk hR (by rw [e2]; exact hC.2.2.2.1) (ev_locs hC q1) hx) (hL.mv hx) (hx.S (lvS_2 (lvS_2 (lvS_2 hS)))).1)
theorem Ev_alen {k i n : Nat} (hd : decode (mB M) pc = .ok (.arraylength, 1)) (hk : Nat.blt k 4 = true) (hs : shp k i = (1, n)) (kk : Ev E M (pc + 1) ls (vI (Int32.ofNat n) :: st) h P) : Ev E M pc ls (vR k i :: st) h P := by
  intro p e R s m args below meth c H locs cells slots lsA ad ad0 h0 hC hL hS
  obtain ⟨k4, hi4, hz, q1, q2, q3⟩ := ev_obj hC hk (lvS_1 hS)
  have c0 := q3.2.1 (by rw [hs])
  rw [hs] at c0
  rw [List.map_cons, hz]
  exact W.alen (n := Int32.ofNat n) hC.ex hC.cd c0 ((hC.K.2 0 _ rfl).1 n _) (by rw [arrV_size]) rfl rfl hd (kk p e R s m args below meth c H locs cells slots lsA ad ad0 h0 hC hL (lvS_i (lvS_2 hS)))
/-- the old arrays: read alone -/
theorem ev_old {p : Program} {R : Room} {s : State} {m : MethodId} {meth : Method} {c : Code} {H : Heap} {locs : List Loc} {cells slots : Nat} {ad ad0 : Nat → Nat → Nat} {h0 : ev_H} (hC : ev_C E M p R s m meth c H locs cells slots ad ad0 h h0) {i : Nat} (hi : i < 3) : cv ad (vR 5 i) = .ref (eO E i) ∧ va_T .int (eO E i) (eN E i) (fun j => .int (eX E i j)) (fun q => eZ E ≤ q) s H := by
  obtain ⟨h1, h2⟩ := hC.1.2.2.2.1 i hi
  refine ⟨?_, (va_T.moved hC.wm.alike h2).kept (fun a _ ha => hC.2.2.1.2.2.1 a (Nat.not_le.mp ha))⟩
  show Value.ref (ad 5 i) = _
  rw [hC.2.2.1.2.2.2.1 i hi]
theorem Ev_ialdO {i : Nat} {x : Int32} (hd : decode (mB M) pc = .ok (.iaload, 1)) (hi : Nat.blt i 3 = true) (h1 : ¬ x < 0) (h2 : x.toNatClampNeg < eN E i) (kk : Ev E M (pc + 1) ls (vI (eX E i x.toNatClampNeg) :: st) h P) : Ev E M pc ls (vI x :: vR 5 i :: st) h P := by
  intro p e R s m args below meth c H locs cells slots lsA ad ad0 h0 hC hL hS
  obtain ⟨hz, scr, g1, g2, g3, g4, g6, g5, -⟩ := ev_old hC (i := i) (by simpa [Nat.blt_eq] using hi)
  rw [List.map_cons, List.map_cons, hz]
  refine W.iald hC.ex hC.cd (v := .int (eX E i x.toNatClampNeg)) g1 g2 g3 ?_ (g5 _ h2) rfl rfl hd (kk p e R s m args below meth c H locs cells slots lsA ad ad0 h0 hC hL (lvS_i (lvS_2 (lvS_2 hS))))
  rintro (z | z)
  · exact h1 z
  · exact absurd h2 (Nat.not_lt.mpr (Nat.le_trans g4 z))
theorem Ev_alenO {i : Nat} (hd : decode (mB M) pc = .ok (.arraylength, 1)) (hi : Nat.blt i 3 = true) (kk : Ev E M (pc + 1) ls (vI (Int32.ofNat (eN E i)) :: st) h P) : Ev E M pc ls (vR 5 i :: st) h P := by
  intro p e R s m args below meth c H locs cells slots lsA ad ad0 h0 hC hL hS
  obtain ⟨hz, scr, g1, g2, g3, g4, g6, g5, -⟩ := ev_old hC (i := i) (by simpa [Nat.blt_eq] using hi)
  rw [List.map_cons, hz]
  exact W.alen (n := Int32.ofNat (eN E i)) hC.ex hC.cd g1 g2 g6 rfl rfl hd (kk p e R s m args below meth c H locs cells slots lsA ad ad0 h0 hC hL (lvS_i (lvS_2 hS)))
/-- the two static arrays -/
theorem Ev_gets {i idx : Nat} (hd : decode (mB M) pc = .ok (.getstatic idx, 3)) (hi : Nat.blt i 2 = true) (hw : wd (.fieldLink (mY M).cls idx "TypedBlood" (cond (Nat.beq i 0) "ADDED_MARK" "PRODUCT_LIMIT") "[I")) (kk : Ev E M (pc + 3) ls (vR 5 (i + 1) :: st) h P) : Ev E M pc ls st h P := by
  intro p e R s m args below meth c H locs cells slots lsA ad ad0 h0 hC hL hS
  have hi2 : i < 2 := by simpa [Nat.blt_eq] using hi
  have hz := (ev_old hC (i := i + 1) (by omega)).1
  have hZ := hC.1.2.2.2.2.1 i hi2
  have hZ' : va_Z "TypedBlood" (cond (Nat.beq i 0) "ADDED_MARK" "PRODUCT_LIMIT") "[I" (.ref (eO E (i + 1))) (fun q => eZ E ≤ q) s s.heap := va_Z.moved hC.wm.alike (hZ.kept fun a ha hA => hC.2.1.2.2.2.2.2.2.2.2.2.1 a (Nat.not_le.mp hA))
  have k' := kk p e R s m args below meth c H locs cells slots lsA ad ad0 h0 hC hL (lvS_c (Or.inr (Or.inl ⟨rfl, by omega⟩)) hS)
  rw [List.map_cons, hz] at k'
  exact va_gets hC.ex hC.cd hZ' hC.old hC.own (hC.w hw args) (fun _ z => z) hd k'
end EvR
