/-! the words that hold at the law's start; where a method's walk stands; its end -/
/-- the two static arrays' contents -/
def tab (i j : Nat) : Int32 := cond (Nat.beq i 1) (([0, 1, 2, 4] : List Int32).getD j 0) (([7200, 1440, 20160, 1440] : List Int32).getD j 0)
/-- what holds at the law's start -/
def ev_G (E : ev_E) : Prop :=
  (eL E).stackTraces = false ∧ (∀ w ∈ lw_tbl, w.before (eA E) (eS E) = true) ∧
  va_K (eD E) vC [(eC E 0, .int), (eC E 1, .long), (eC E 2, .object "TypedBlood$Unit"), (eC E 3, .object "TypedBlood$Patient")] (eS E) ∧
  (∀ i, i < 3 → eO E i < eZ E ∧ va_T .int (eO E i) (eN E i) (fun j => .int (eX E i j)) (fun q => eZ E ≤ q) (eS E) (eS E).heap) ∧
  (∀ i, i < 2 → va_Z "TypedBlood" (cond (Nat.beq i 0) "ADDED_MARK" "PRODUCT_LIMIT") "[I" (.ref (eO E (i + 1))) (fun q => eZ E ≤ q) (eS E) (eS E).heap) ∧
  vx_Zq Bundle.tN "UNASSIGNED_STACK" Bundle.steD (fun q => eZ E ≤ q) (eS E) (eS E).heap ∧ vx_Zq Bundle.tN "SUPPRESSED_SENTINEL" Bundle.listD (fun q => eZ E ≤ q) (eS E) (eS E).heap ∧
  (∀ own is text, Cond.stringRef own is text ∈ lw_tbl → ∃ sa, vk_R own is text sa (eS E)) ∧
  (∀ x y, x < 5 → y < 5 → x ≠ y → va_Nc (xN x) (xN y) (eS E)) ∧
  (eN E 1 = 4 ∧ eN E 2 = 4 ∧ ∀ j, j < 4 → eX E 1 j = tab 1 j ∧ eX E 2 j = tab 2 j)
/-- a method's invocation -/
def ev_I (E : ev_E) (M : ev_M) (p : Program) (R : Room) (s : State) (m : MethodId) (meth : Method) (c : Code) : Prop :=
  p.tables.exec = Jvm.exec ∧ c.code = mB M ∧ meth.sig.returnType = mR M ∧ c.maxLocals = mL M ∧ s.vm.findClass (mY M).cls = some m.cls ∧ meth.name = (mY M).name ∧ meth.locks = false ∧ c.exceptionTable.toList = tableOf (mH M) ∧
  (eS E).WarmedH s.vm ∧ (∀ q, q < eZ E → s.heap[q]? = (eS E).heap[q]?) ∧ eZ E ≤ s.heap.size ∧ mD M + 2 ≤ R.frames ∧ 30 * mD M + 124 ≤ R.locals ∧ eZ E + ZM ≤ s.heap.size + R.cells ∧ 512 * (eZ E + ZM - s.heap.size) ≤ R.slots
def ev_C (E : ev_E) (M : ev_M) (p : Program) (R : Room) (s : State) (m : MethodId) (meth : Method) (c : Code) (H : Heap) (locs : List Loc) (cells slots : Nat) (ad ad0 : Nat → Nat → Nat) (h h0 : ev_H) : Prop :=
  ev_G E ∧ ev_I E M p R s m meth c ∧ Rl E ad h H ∧ s.heap.size ≤ H.size ∧ cells = H.size - s.heap.size ∧ slots = 512 * (H.size - s.heap.size) ∧ (∀ q ∈ locs, eZ E ≤ q.base) ∧ xt ad0 h0 ad h
/-- how a method ended -/
def ev_O (ad : Nat → Nat → Nat) (h : ev_H) (s : State) (r : Option ev_V ⊕ Nat) (o : Outcome) (t : State) : Prop := match r with
  | .inl none => o = .returned none
  | .inl (some v) => o = .returned (some (cv ad v)) ∧ lvV h v
  | .inr x => x < 5 ∧ ∃ q ce, o = .threw q ∧ t.heap[q]? = some ce ∧ ce.vm = .none ∧ s.vm.findClass (xN x) = some ce.cls
def ev_Q (E : ev_E) (s : State) (ad0 : Nat → Nat → Nat) (h0 : ev_H) (P : Option ev_V ⊕ Nat → ev_H → Prop) (o : Outcome) (t : State) : Prop :=
  ∃ r h' ad', s.WarmedH t.vm ∧ (∃ L, s.sameButNew ({ t with vm := s.vm } : State) L (t.heap.size - s.heap.size) (512 * (t.heap.size - s.heap.size)) ∧ ∀ q ∈ L, eZ E ≤ q.base) ∧
    Rl E ad' h' t.heap ∧ xt ad0 h0 ad' h' ∧ ev_O ad' h' s r o t ∧ P r h'
def ev_QE (E : ev_E) (s : State) (below : List Frame) (ad0 : Nat → Nat → Nat) (h0 : ev_H) (P : Option ev_V ⊕ Nat → ev_H → Prop) : State → Prop := fun t => ∃ o, t.status = .running ∧ Ended t below o ∧ ev_Q E s ad0 h0 P o t
def Ev (E : ev_E) (M : ev_M) (pc : Nat) (ls : List (Nat × ev_V)) (st : List ev_V) (h : ev_H) (P : Option ev_V ⊕ Nat → ev_H → Prop) : Prop :=
  ∀ (p : Program) (e : Env) (R : Room) (s : State) (m : MethodId) (args : Array Value) (below : List Frame) (meth : Method) (c : Code) (H : Heap) (locs : List Loc) (cells slots : Nat) (lsA : Array Slot) (ad ad0 : Nat → Nat → Nat) (h0 : ev_H),
    ev_C E M p R s m meth c H locs cells slots ad ad0 h h0 → ev_LR ad h (mL M) ls lsA → lvS h st →
    W p (eL E) e R s m args below meth c H locs cells slots (ev_QE E s below ad0 h0 P) (F0 m pc lsA (st.map (cv ad)))
theorem W.mono {p : Program} {l : Launch} {e : Env} {R : Room} {s : State} {m : MethodId} {args : Array Value} {below : List Frame} {meth : Method} {c : Code} {H : Heap} {locs : List Loc} {cells slots : Nat} {Q Q' : State → Prop} {g : JFrame} (hq : ∀ t, Q t → Q' t) (k : W p l e R s m args below meth c H locs cells slots Q g) : W p l e R s m args below meth c H locs cells slots Q' g := by
  intro T hT X
  obtain ⟨t, a, b⟩ := k T hT X
  exact ⟨t, a, hq t b⟩
section EvC
variable {E : ev_E} {M : ev_M} {p : Program} {R : Room} {s : State} {m : MethodId} {meth : Method} {c : Code} {H : Heap} {locs : List Loc} {cells slots : Nat} {ad ad0 : Nat → Nat → Nat} {h h0 : ev_H}
theorem ev_C.ex (q : ev_C E M p R s m meth c H locs cells slots ad ad0 h h0) : p.tables.exec = Jvm.exec := q.2.1.1
theorem ev_C.cd (q : ev_C E M p R s m meth c H locs cells slots ad ad0 h h0) : c.code = mB M := q.2.1.2.1
theorem ev_C.ml (q : ev_C E M p R s m meth c H locs cells slots ad ad0 h h0) : c.maxLocals = mL M := q.2.1.2.2.2.1
theorem ev_C.own (q : ev_C E M p R s m meth c H locs cells slots ad ad0 h h0) : s.vm.findClass (mY M).cls = some m.cls := q.2.1.2.2.2.2.1
theorem ev_C.wm (q : ev_C E M p R s m meth c H locs cells slots ad ad0 h h0) : (eS E).WarmedH s.vm := q.2.1.2.2.2.2.2.2.2.2.1
theorem ev_C.w (q : ev_C E M p R s m meth c H locs cells slots ad ad0 h h0) {w : Cond} (hw : wd w) (args : Array Value) : w.before args s = true := gw_at hw.2 q.wm (q.1.2.1 w hw.1)
theorem ev_C.hts (q : ev_C E M p R s m meth c H locs cells slots ad ad0 h h0) (args : Array Value) : ∀ w ∈ lw_tbl.filter goodWord, w.before args s = true := fun w hw => q.w ⟨(List.mem_filter.mp hw).1, by unfold gw; rw [(List.mem_filter.mp hw).2]; rfl⟩ args
theorem ev_C.K (q : ev_C E M p R s m meth c H locs cells slots ad ad0 h h0) : va_K (eD E) vC [(eC E 0, .int), (eC E 1, .long), (eC E 2, .object "TypedBlood$Unit"), (eC E 3, .object "TypedBlood$Patient")] s := va_K.moved q.wm.alike q.1.2.2.1
theorem ev_C.old (q : ev_C E M p R s m meth c H locs cells slots ad ad0 h h0) : va_S (fun z => eZ E ≤ z) s.heap H locs := by
  obtain ⟨-, i, r, z, -, -, l, -⟩ := q
  refine ⟨z, fun a _ ha => ?_, l⟩
  have hlt : a < eZ E := Nat.not_le.mp ha
  rw [r.2.2.1 a hlt, i.2.2.2.2.2.2.2.2.2.1 a hlt]
end EvC
section EvR
variable {E : ev_E} {M : ev_M} {pc : Nat} {ls : List (Nat × ev_V)} {st : List ev_V} {h : ev_H} {P : Option ev_V ⊕ Nat → ev_H → Prop}
theorem Ev_sub {ls' : List (Nat × ev_V)} (hs : ∀ i v, lget ls' i = some v → lget ls i = some v) (k : Ev E M pc ls' st h P) : Ev E M pc ls st h P :=
  fun p e R s m args below meth c H locs cells slots lsA ad ad0 h0 hC hL hS => k p e R s m args below meth c H locs cells slots lsA ad ad0 h0 hC (hL.sub hs) hS
theorem Ev_mono {P' : Option ev_V ⊕ Nat → ev_H → Prop} (hp : ∀ r h', P r h' → P' r h') (k : Ev E M pc ls st h P) : Ev E M pc ls st h P' := by
  intro p e R s m args below meth c H locs cells slots lsA ad ad0 h0 hC hL hS
  refine W.mono (fun t q => ?_) (k p e R s m args below meth c H locs cells slots lsA ad ad0 h0 hC hL hS)
  obtain ⟨o, a1, a2, r, h', ad', b1, b2, b3, b4, b5, b6⟩ := q
  exact ⟨o, a1, a2, r, h', ad', b1, b2, b3, b4, b5, hp r h' b6⟩
theorem Ev_iconst {n : Int} {v : Int32} (hd : decode (mB M) pc = .ok (.iconst n, 1)) (hv : Int32.ofInt n = v) (k : Ev E M (pc + 1) ls (vI v :: st) h P) : Ev E M pc ls st h P := by
  intro p e R s m args below meth c H locs cells slots lsA ad ad0 h0 hC hL hS
  exact lv_iconst hC.ex hC.cd hd hv (k p e R s m args below meth c H locs cells slots lsA ad ad0 h0 hC hL (lvS_i hS))
theorem Ev_bipush {n : Int} {v : Int32} (hd : decode (mB M) pc = .ok (.bipush n, 2)) (hv : (Int8.ofInt n).toInt32 = v) (k : Ev E M (pc + 2) ls (vI v :: st) h P) : Ev E M pc ls st h P := by
  intro p e R s m args below meth c H locs cells slots lsA ad ad0 h0 hC hL hS
  exact lv_bipush hC.ex hC.cd hd hv (k p e R s m args below meth c H locs cells slots lsA ad ad0 h0 hC hL (lvS_i hS))
theorem Ev_sipush {n : Int} {v : Int32} (hd : decode (mB M) pc = .ok (.sipush n, 3)) (hv : (Int16.ofInt n).toInt32 = v) (k : Ev E M (pc + 3) ls (vI v :: st) h P) : Ev E M pc ls st h P := by
  intro p e R s m args below meth c H locs cells slots lsA ad ad0 h0 hC hL hS
  exact lv_sipush hC.ex hC.cd hd hv (k p e R s m args below meth c H locs cells slots lsA ad ad0 h0 hC hL (lvS_i hS))
theorem Ev_ldc {idx : Nat} {v : Int32} (hd : decode (mB M) pc = .ok (.ldc idx, 2)) (hw : wd (.constant (mY M).cls idx v)) (k : Ev E M (pc + 2) ls (vI v :: st) h P) : Ev E M pc ls st h P := by
  intro p e R s m args below meth c H locs cells slots lsA ad ad0 h0 hC hL hS
  exact lv_ldc hC.ex hC.cd hC.own (hC.w hw args) hd (k p e R s m args below meth c H locs cells slots lsA ad ad0 h0 hC hL (lvS_i hS))
theorem Ev_ldcw {idx : Nat} {v : Int32} (hd : decode (mB M) pc = .ok (.ldc_w idx, 3)) (hw : wd (.constant (mY M).cls idx v)) (k : Ev E M (pc + 3) ls (vI v :: st) h P) : Ev E M pc ls st h P := by
  intro p e R s m args below meth c H locs cells slots lsA ad ad0 h0 hC hL hS
  exact lv_ldcw hC.ex hC.cd hC.own (hC.w hw args) hd (k p e R s m args below meth c H locs cells slots lsA ad ad0 h0 hC hL (lvS_i hS))
theorem Ev_iload {i : Nat} {x : Int32} (hd : decode (mB M) pc = .ok (.iload i, 2)) (hl : lget ls i = some (vI x)) (k : Ev E M (pc + 2) ls (vI x :: st) h P) : Ev E M pc ls st h P := by
  intro p e R s m args below meth c H locs cells slots lsA ad ad0 h0 hC hL hS
  exact lv_iload hC.ex hC.cd hd (hL.at hl).1 (k p e R s m args below meth c H locs cells slots lsA ad ad0 h0 hC hL (lvS_i hS))
theorem Ev_iload_n {i : Fin 4} {x : Int32} (hd : decode (mB M) pc = .ok (.iload_n i, 1)) (hl : lget ls i.val = some (vI x)) (k : Ev E M (pc + 1) ls (vI x :: st) h P) : Ev E M pc ls st h P := by
  intro p e R s m args below meth c H locs cells slots lsA ad ad0 h0 hC hL hS
  exact lv_iload_n hC.ex hC.cd hd rfl (hL.at hl).1 (k p e R s m args below meth c H locs cells slots lsA ad ad0 h0 hC hL (lvS_i hS))
theorem Ev_aload {i : Nat} {a b : Nat} (hd : decode (mB M) pc = .ok (.aload i, 2)) (hl : lget ls i = some (vR a b)) (k : Ev E M (pc + 2) ls (vR a b :: st) h P) : Ev E M pc ls st h P := by
  intro p e R s m args below meth c H locs cells slots lsA ad ad0 h0 hC hL hS
  obtain ⟨h1, h2⟩ := hL.at hl
  have k' := k p e R s m args below meth c H locs cells slots lsA ad ad0 h0 hC hL (lvS_c h2 hS)
  obtain ⟨z, hz⟩ : ∃ z, cv ad (vR a b) = .ref z := by
    show ∃ z, (if a = 4 then Value.ref b else Value.ref (ad a b)) = .ref z
    by_cases h4 : a = 4
    · exact ⟨b, by rw [if_pos h4]⟩
    · exact ⟨ad a b, by rw [if_neg h4]⟩
  rw [List.map_cons, hz] at k'
  rw [hz] at h1
  exact lv_aload hC.ex hC.cd hd h1 k'
theorem Ev_aload_n {i : Fin 4} {a b : Nat} (hd : decode (mB M) pc = .ok (.aload_n i, 1)) (hl : lget ls i.val = some (vR a b)) (k : Ev E M (pc + 1) ls (vR a b :: st) h P) : Ev E M pc ls st h P := by
  intro p e R s m args below meth c H locs cells slots lsA ad ad0 h0 hC hL hS
  obtain ⟨h1, h2⟩ := hL.at hl
  have k' := k p e R s m args below meth c H locs cells slots lsA ad ad0 h0 hC hL (lvS_c h2 hS)
  obtain ⟨z, hz⟩ : ∃ z, cv ad (vR a b) = .ref z := by
    show ∃ z, (if a = 4 then Value.ref b else Value.ref (ad a b)) = .ref z
    by_cases h4 : a = 4
    · exact ⟨b, by rw [if_pos h4]⟩
    · exact ⟨ad a b, by rw [if_neg h4]⟩
  rw [List.map_cons, hz] at k'
  rw [hz] at h1
  exact lv_aload_n hC.ex hC.cd hd rfl h1 k'
theorem Ev_istore {i : Nat} {x : Int32} (hd : decode (mB M) pc = .ok (.istore i, 2)) (hn : Nat.blt i (mL M) = true) (k : Ev E M (pc + 2) (lset ls i (vI x)) st h P) : Ev E M pc ls (vI x :: st) h P := by
  intro p e R s m args below meth c H locs cells slots lsA ad ad0 h0 hC hL hS
  obtain ⟨A', e1, hL'⟩ := hL.set (i := i) (by simpa [Nat.blt_eq] using hn) (v := vI x) trivial rfl
  intro T hT X
  obtain ⟨t, a, b⟩ := k p e R s m args below meth c H locs cells slots A' ad ad0 h0 hC hL' (lvS_2 hS) T hT X
  refine ⟨t, ?_, b⟩
  have e1' : storeLocals lsA i (.int x) = some A' := e1
  have hb := hC.cd
  have hexec := hC.ex
  show Steps p.tables e below (T.setTop (F0 m pc lsA (.int x :: st.map (cv ad)))) t
  jvm_step X.here [X.here.top, ↓top_set X.here.top, hexec, hb, hd, e1']
  exact a
theorem Ev_istore_n {i : Fin 4} {x : Int32} (hd : decode (mB M) pc = .ok (.istore_n i, 1)) (hn : Nat.blt i.val (mL M) = true) (k : Ev E M (pc + 1) (lset ls i.val (vI x)) st h P) : Ev E M pc ls (vI x :: st) h P := by
  intro p e R s m args below meth c H locs cells slots lsA ad ad0 h0 hC hL hS
  obtain ⟨A', e1, hL'⟩ := hL.set (i := i.val) (by simpa [Nat.blt_eq] using hn) (v := vI x) trivial rfl
  intro T hT X
  obtain ⟨t, a, b⟩ := k p e R s m args below meth c H locs cells slots A' ad ad0 h0 hC hL' (lvS_2 hS) T hT X
  refine ⟨t, ?_, b⟩
  have e1' : storeLocals lsA i.val (.int x) = some A' := e1
  have hb := hC.cd
  have hexec := hC.ex
  show Steps p.tables e below (T.setTop (F0 m pc lsA (.int x :: st.map (cv ad)))) t
  jvm_step X.here [X.here.top, ↓top_set X.here.top, hexec, hb, hd, e1']
  exact a
theorem Ev_astore {i : Nat} {a' b' : Nat} (hd : decode (mB M) pc = .ok (.astore i, 2)) (hn : Nat.blt i (mL M) = true) (k : Ev E M (pc + 2) (lset ls i (vR a' b')) st h P) : Ev E M pc ls (vR a' b' :: st) h P := by
  intro p e R s m args below meth c H locs cells slots lsA ad ad0 h0 hC hL hS
  obtain ⟨z, hz⟩ : ∃ z, cv ad (vR a' b') = .ref z := by
    show ∃ z, (if a' = 4 then Value.ref b' else Value.ref (ad a' b')) = .ref z
    by_cases h4 : a' = 4
    · exact ⟨b', by rw [if_pos h4]⟩
    · exact ⟨ad a' b', by rw [if_neg h4]⟩
  obtain ⟨A', e1, hL'⟩ := hL.set (i := i) (by simpa [Nat.blt_eq] using hn) (v := vR a' b') (lvS_1 hS) (by rw [hz]; rfl)
  intro T hT X
  obtain ⟨t, a, b⟩ := k p e R s m args below meth c H locs cells slots A' ad ad0 h0 hC hL' (lvS_2 hS) T hT X
  refine ⟨t, ?_, b⟩
  rw [hz] at e1
  have hb := hC.cd
  have hexec := hC.ex
  rw [List.map_cons, hz]
  show Steps p.tables e below (T.setTop (F0 m pc lsA (.ref z :: st.map (cv ad)))) t
  jvm_step X.here [X.here.top, ↓top_set X.here.top, hexec, hb, hd, e1, Value.isRef]
  exact a
theorem Ev_astore_n {i : Fin 4} {a' b' : Nat} (hd : decode (mB M) pc = .ok (.astore_n i, 1)) (hn : Nat.blt i.val (mL M) = true) (k : Ev E M (pc + 1) (lset ls i.val (vR a' b')) st h P) : Ev E M pc ls (vR a' b' :: st) h P := by
  intro p e R s m args below meth c H locs cells slots lsA ad ad0 h0 hC hL hS
  obtain ⟨z, hz⟩ : ∃ z, cv ad (vR a' b') = .ref z := by
    show ∃ z, (if a' = 4 then Value.ref b' else Value.ref (ad a' b')) = .ref z
    by_cases h4 : a' = 4
    · exact ⟨b', by rw [if_pos h4]⟩
    · exact ⟨ad a' b', by rw [if_neg h4]⟩
  obtain ⟨A', e1, hL'⟩ := hL.set (i := i.val) (by simpa [Nat.blt_eq] using hn) (v := vR a' b') (lvS_1 hS) (by rw [hz]; rfl)
  intro T hT X
  obtain ⟨t, a, b⟩ := k p e R s m args below meth c H locs cells slots A' ad ad0 h0 hC hL' (lvS_2 hS) T hT X
  refine ⟨t, ?_, b⟩
  rw [hz] at e1
  have hb := hC.cd
  have hexec := hC.ex
  rw [List.map_cons, hz]
  show Steps p.tables e below (T.setTop (F0 m pc lsA (.ref z :: st.map (cv ad)))) t
  jvm_step X.here [X.here.top, ↓top_set X.here.top, hexec, hb, hd, e1, Value.isRef]
  exact a
theorem Ev_iinc {i : Nat} {n : Int} {x d : Int32} (hd : decode (mB M) pc = .ok (.iinc i n, 3)) (hl : lget ls i = some (vI x)) (hv : Int32.ofInt n = d) (hn : Nat.blt i (mL M) = true) (k : Ev E M (pc + 3) (lset ls i (vI (x + d))) st h P) : Ev E M pc ls st h P := by
  intro p e R s m args below meth c H locs cells slots lsA ad ad0 h0 hC hL hS
  have hg := (hL.at hl).1
  have hg' : lsA[i]? = some (.val (.int x)) := hg
  obtain ⟨A', e1, hL'⟩ := hL.set (i := i) (by simpa [Nat.blt_eq] using hn) (v := vI (x + d)) trivial rfl
  intro T hT X
  obtain ⟨t, a, b⟩ := k p e R s m args below meth c H locs cells slots A' ad ad0 h0 hC hL' hS T hT X
  refine ⟨t, ?_, b⟩
  have e1' : storeLocals lsA i (.int (x + Int32.ofInt n)) = some A' := by rw [hv]; exact e1
  have hb := hC.cd
  have hexec := hC.ex
  jvm_step X.here [X.here.top, ↓top_set X.here.top, hexec, hb, hd, hg', e1']
  exact a
theorem Ev_iadd {x y : Int32} (hd : decode (mB M) pc = .ok (.iadd, 1)) (k : Ev E M (pc + 1) ls (vI (x + y) :: st) h P) : Ev E M pc ls (vI y :: vI x :: st) h P := by
  intro p e R s m args below meth c H locs cells slots lsA ad ad0 h0 hC hL hS
  exact lv_iadd hC.ex hC.cd hd (k p e R s m args below meth c H locs cells slots lsA ad ad0 h0 hC hL (lvS_i (lvS_2 (lvS_2 hS))))
theorem Ev_isub {x y : Int32} (hd : decode (mB M) pc = .ok (.isub, 1)) (k : Ev E M (pc + 1) ls (vI (x - y) :: st) h P) : Ev E M pc ls (vI y :: vI x :: st) h P := by
  intro p e R s m args below meth c H locs cells slots lsA ad ad0 h0 hC hL hS
  exact lv_isub hC.ex hC.cd hd (k p e R s m args below meth c H locs cells slots lsA ad ad0 h0 hC hL (lvS_i (lvS_2 (lvS_2 hS))))
theorem Ev_imul {x y : Int32} (hd : decode (mB M) pc = .ok (.imul, 1)) (k : Ev E M (pc + 1) ls (vI (x * y) :: st) h P) : Ev E M pc ls (vI y :: vI x :: st) h P := by
  intro p e R s m args below meth c H locs cells slots lsA ad ad0 h0 hC hL hS
  exact lv_imul hC.ex hC.cd hd (k p e R s m args below meth c H locs cells slots lsA ad ad0 h0 hC hL (lvS_i (lvS_2 (lvS_2 hS))))
theorem Ev_iand {x y : Int32} (hd : decode (mB M) pc = .ok (.iand, 1)) (k : Ev E M (pc + 1) ls (vI (x &&& y) :: st) h P) : Ev E M pc ls (vI y :: vI x :: st) h P := by
  intro p e R s m args below meth c H locs cells slots lsA ad ad0 h0 hC hL hS
  exact lv_iand hC.ex hC.cd hd (k p e R s m args below meth c H locs cells slots lsA ad ad0 h0 hC hL (lvS_i (lvS_2 (lvS_2 hS))))
theorem Ev_ior {x y : Int32} (hd : decode (mB M) pc = .ok (.ior, 1)) (k : Ev E M (pc + 1) ls (vI (x ||| y) :: st) h P) : Ev E M pc ls (vI y :: vI x :: st) h P := by
  intro p e R s m args below meth c H locs cells slots lsA ad ad0 h0 hC hL hS
  exact lv_ior hC.ex hC.cd hd (k p e R s m args below meth c H locs cells slots lsA ad ad0 h0 hC hL (lvS_i (lvS_2 (lvS_2 hS))))
theorem Ev_ixor {x y : Int32} (hd : decode (mB M) pc = .ok (.ixor, 1)) (k : Ev E M (pc + 1) ls (vI (x ^^^ y) :: st) h P) : Ev E M pc ls (vI y :: vI x :: st) h P := by
  intro p e R s m args below meth c H locs cells slots lsA ad ad0 h0 hC hL hS
  exact lv_ixor hC.ex hC.cd hd (k p e R s m args below meth c H locs cells slots lsA ad ad0 h0 hC hL (lvS_i (lvS_2 (lvS_2 hS))))
theorem Ev_ishl {x y : Int32} (hd : decode (mB M) pc = .ok (.ishl, 1)) (k : Ev E M (pc + 1) ls (vI (x <<< (y &&& 31)) :: st) h P) : Ev E M pc ls (vI y :: vI x :: st) h P := by
  intro p e R s m args below meth c H locs cells slots lsA ad ad0 h0 hC hL hS
  exact lv_ishl hC.ex hC.cd hd (k p e R s m args below meth c H locs cells slots lsA ad ad0 h0 hC hL (lvS_i (lvS_2 (lvS_2 hS))))
theorem Ev_ishr {x y : Int32} (hd : decode (mB M) pc = .ok (.ishr, 1)) (k : Ev E M (pc + 1) ls (vI (x >>> (y &&& 31)) :: st) h P) : Ev E M pc ls (vI y :: vI x :: st) h P := by
  intro p e R s m args below meth c H locs cells slots lsA ad ad0 h0 hC hL hS
  exact lv_ishr hC.ex hC.cd hd (k p e R s m args below meth c H locs cells slots lsA ad ad0 h0 hC hL (lvS_i (lvS_2 (lvS_2 hS))))
theorem Ev_idiv {x y : Int32} (hd : decode (mB M) pc = .ok (.idiv, 1)) (hne : ¬ y = 0) (k : Ev E M (pc + 1) ls (vI (x / y) :: st) h P) : Ev E M pc ls (vI y :: vI x :: st) h P := by
  intro p e R s m args below meth c H locs cells slots lsA ad ad0 h0 hC hL hS
  exact lv_idiv hC.ex hC.cd hd hne (k p e R s m args below meth c H locs cells slots lsA ad ad0 h0 hC hL (lvS_i (lvS_2 (lvS_2 hS))))
theorem Ev_irem {x y : Int32} (hd : decode (mB M) pc = .ok (.irem, 1)) (hne : ¬ y = 0) (k : Ev E M (pc + 1) ls (vI (x - x / y * y) :: st) h P) : Ev E M pc ls (vI y :: vI x :: st) h P := by
  intro p e R s m args below meth c H locs cells slots lsA ad ad0 h0 hC hL hS
  exact lv_irem hC.ex hC.cd hd hne (k p e R s m args below meth c H locs cells slots lsA ad ad0 h0 hC hL (lvS_i (lvS_2 (lvS_2 hS))))
theorem Ev_i2l {x : Int32} (hd : decode (mB M) pc = .ok (.i2l, 1)) (k : Ev E M (pc + 1) ls (vL x.toInt64 :: st) h P) : Ev E M pc ls (vI x :: st) h P := by
  intro p e R s m args below meth c H locs cells slots lsA ad ad0 h0 hC hL hS
  exact lv_i2l hC.ex hC.cd hd rfl (k p e R s m args below meth c H locs cells slots lsA ad ad0 h0 hC hL (lvS_l (lvS_2 hS)))
theorem Ev_lcmp {x y : Int64} (hd : decode (mB M) pc = .ok (.lcmp, 1)) (k : Ev E M (pc + 1) ls (vI (lg_cmp x y) :: st) h P) : Ev E M pc ls (vL y :: vL x :: st) h P := by
  intro p e R s m args below meth c H locs cells slots lsA ad ad0 h0 hC hL hS
  exact W.lcmp hC.ex hC.cd hd (k p e R s m args below meth c H locs cells slots lsA ad ad0 h0 hC hL (lvS_i (lvS_2 (lvS_2 hS))))
def sg (v : ev_V) : Bool := match v with
  | .inr (.inr _) => false
  | _ => true
theorem cv_sg {ad : Nat → Nat → Nat} {v : ev_V} (q : sg v = true) : (cv ad v).category = 1 := by
  rcases v with (_ | ⟨k, i⟩) | (x | x)
  · rfl
  · show (if k = 4 then Value.ref i else Value.ref (ad k i)).category = 1
    by_cases h4 : k = 4
    · rw [if_pos h4]; rfl
    · rw [if_neg h4]; rfl
  · rfl
  · cases q
theorem Ev_dup {v : ev_V} (hd : decode (mB M) pc = .ok (.dup, 1)) (hv : sg v = true) (k : Ev E M (pc + 1) ls (v :: v :: st) h P) : Ev E M pc ls (v :: st) h P := by
  intro p e R s m args below meth c H locs cells slots lsA ad ad0 h0 hC hL hS
  exact lv_dup hC.ex hC.cd hd (cv_sg hv) (k p e R s m args below meth c H locs cells slots lsA ad ad0 h0 hC hL (lvS_c (lvS_1 hS) hS))
theorem Ev_pop {v : ev_V} (hd : decode (mB M) pc = .ok (.pop, 1)) (hv : sg v = true) (k : Ev E M (pc + 1) ls st h P) : Ev E M pc ls (v :: st) h P := by
  intro p e R s m args below meth c H locs cells slots lsA ad ad0 h0 hC hL hS
  exact lv_pop hC.ex hC.cd hd (cv_sg hv) (k p e R s m args below meth c H locs cells slots lsA ad ad0 h0 hC hL (lvS_2 hS))
theorem Ev_if_eq {x : Int32} {off : Int} {tgt : Nat} (hd : decode (mB M) pc = .ok (.ifCond .eq off, 3)) (ht : (pc : Int) + off = (tgt : Int)) (kt : x = 0 → Ev E M tgt ls st h P) (kf : ¬ x = 0 → Ev E M (pc + 3) ls st h P) : Ev E M pc ls (vI x :: st) h P := by
  intro p e R s m args below meth c H locs cells slots lsA ad ad0 h0 hC hL hS
  exact lv_if_eq hC.ex hC.cd hd ht (fun q => kt q p e R s m args below meth c H locs cells slots lsA ad ad0 h0 hC hL (lvS_2 hS)) (fun q => kf q p e R s m args below meth c H locs cells slots lsA ad ad0 h0 hC hL (lvS_2 hS))
theorem Ev_icmp_eq {x y : Int32} {off : Int} {tgt : Nat} (hd : decode (mB M) pc = .ok (.if_icmp .eq off, 3)) (ht : (pc : Int) + off = (tgt : Int)) (kt : x = y → Ev E M tgt ls st h P) (kf : ¬ x = y → Ev E M (pc + 3) ls st h P) : Ev E M pc ls (vI y :: vI x :: st) h P := by
  intro p e R s m args below meth c H locs cells slots lsA ad ad0 h0 hC hL hS
  exact lv_icmp_eq hC.ex hC.cd hd ht (fun q => kt q p e R s m args below meth c H locs cells slots lsA ad ad0 h0 hC hL (lvS_2 (lvS_2 hS))) (fun q => kf q p e R s m args below meth c H locs cells slots lsA ad ad0 h0 hC hL (lvS_2 (lvS_2 hS)))
theorem Ev_if_ne {x : Int32} {off : Int} {tgt : Nat} (hd : decode (mB M) pc = .ok (.ifCond .ne off, 3)) (ht : (pc : Int) + off = (tgt : Int)) (kt : ¬ x = 0 → Ev E M tgt ls st h P) (kf : x = 0 → Ev E M (pc + 3) ls st h P) : Ev E M pc ls (vI x :: st) h P := by
  intro p e R s m args below meth c H locs cells slots lsA ad ad0 h0 hC hL hS
  exact lv_if_ne hC.ex hC.cd hd ht (fun q => kt q p e R s m args below meth c H locs cells slots lsA ad ad0 h0 hC hL (lvS_2 hS)) (fun q => kf q p e R s m args below meth c H locs cells slots lsA ad ad0 h0 hC hL (lvS_2 hS))
theorem Ev_icmp_ne {x y : Int32} {off : Int} {tgt : Nat} (hd : decode (mB M) pc = .ok (.if_icmp .ne off, 3)) (ht : (pc : Int) + off = (tgt : Int)) (kt : ¬ x = y → Ev E M tgt ls st h P) (kf : x = y → Ev E M (pc + 3) ls st h P) : Ev E M pc ls (vI y :: vI x :: st) h P := by
  intro p e R s m args below meth c H locs cells slots lsA ad ad0 h0 hC hL hS
  exact lv_icmp_ne hC.ex hC.cd hd ht (fun q => kt q p e R s m args below meth c H locs cells slots lsA ad ad0 h0 hC hL (lvS_2 (lvS_2 hS))) (fun q => kf q p e R s m args below meth c H locs cells slots lsA ad ad0 h0 hC hL (lvS_2 (lvS_2 hS)))
theorem Ev_if_lt {x : Int32} {off : Int} {tgt : Nat} (hd : decode (mB M) pc = .ok (.ifCond .lt off, 3)) (ht : (pc : Int) + off = (tgt : Int)) (kt : x < 0 → Ev E M tgt ls st h P) (kf : ¬ x < 0 → Ev E M (pc + 3) ls st h P) : Ev E M pc ls (vI x :: st) h P := by
  intro p e R s m args below meth c H locs cells slots lsA ad ad0 h0 hC hL hS
  exact lv_if_lt hC.ex hC.cd hd ht (fun q => kt q p e R s m args below meth c H locs cells slots lsA ad ad0 h0 hC hL (lvS_2 hS)) (fun q => kf q p e R s m args below meth c H locs cells slots lsA ad ad0 h0 hC hL (lvS_2 hS))
theorem Ev_icmp_lt {x y : Int32} {off : Int} {tgt : Nat} (hd : decode (mB M) pc = .ok (.if_icmp .lt off, 3)) (ht : (pc : Int) + off = (tgt : Int)) (kt : x < y → Ev E M tgt ls st h P) (kf : ¬ x < y → Ev E M (pc + 3) ls st h P) : Ev E M pc ls (vI y :: vI x :: st) h P := by
  intro p e R s m args below meth c H locs cells slots lsA ad ad0 h0 hC hL hS
  exact lv_icmp_lt hC.ex hC.cd hd ht (fun q => kt q p e R s m args below meth c H locs cells slots lsA ad ad0 h0 hC hL (lvS_2 (lvS_2 hS))) (fun q => kf q p e R s m args below meth c H locs cells slots lsA ad ad0 h0 hC hL (lvS_2 (lvS_2 hS)))
theorem Ev_if_ge {x : Int32} {off : Int} {tgt : Nat} (hd : decode (mB M) pc = .ok (.ifCond .ge off, 3)) (ht : (pc : Int) + off = (tgt : Int)) (kt : 0 ≤ x → Ev E M tgt ls st h P) (kf : ¬ 0 ≤ x → Ev E M (pc + 3) ls st h P) : Ev E M pc ls (vI x :: st) h P := by
  intro p e R s m args below meth c H locs cells slots lsA ad ad0 h0 hC hL hS
  exact lv_if_ge hC.ex hC.cd hd ht (fun q => kt q p e R s m args below meth c H locs cells slots lsA ad ad0 h0 hC hL (lvS_2 hS)) (fun q => kf q p e R s m args below meth c H locs cells slots lsA ad ad0 h0 hC hL (lvS_2 hS))
theorem Ev_icmp_ge {x y : Int32} {off : Int} {tgt : Nat} (hd : decode (mB M) pc = .ok (.if_icmp .ge off, 3)) (ht : (pc : Int) + off = (tgt : Int)) (kt : y ≤ x → Ev E M tgt ls st h P) (kf : ¬ y ≤ x → Ev E M (pc + 3) ls st h P) : Ev E M pc ls (vI y :: vI x :: st) h P := by
  intro p e R s m args below meth c H locs cells slots lsA ad ad0 h0 hC hL hS
  exact lv_icmp_ge hC.ex hC.cd hd ht (fun q => kt q p e R s m args below meth c H locs cells slots lsA ad ad0 h0 hC hL (lvS_2 (lvS_2 hS))) (fun q => kf q p e R s m args below meth c H locs cells slots lsA ad ad0 h0 hC hL (lvS_2 (lvS_2 hS)))
theorem Ev_if_gt {x : Int32} {off : Int} {tgt : Nat} (hd : decode (mB M) pc = .ok (.ifCond .gt off, 3)) (ht : (pc : Int) + off = (tgt : Int)) (kt : 0 < x → Ev E M tgt ls st h P) (kf : ¬ 0 < x → Ev E M (pc + 3) ls st h P) : Ev E M pc ls (vI x :: st) h P := by
  intro p e R s m args below meth c H locs cells slots lsA ad ad0 h0 hC hL hS
  exact lv_if_gt hC.ex hC.cd hd ht (fun q => kt q p e R s m args below meth c H locs cells slots lsA ad ad0 h0 hC hL (lvS_2 hS)) (fun q => kf q p e R s m args below meth c H locs cells slots lsA ad ad0 h0 hC hL (lvS_2 hS))
theorem Ev_icmp_gt {x y : Int32} {off : Int} {tgt : Nat} (hd : decode (mB M) pc = .ok (.if_icmp .gt off, 3)) (ht : (pc : Int) + off = (tgt : Int)) (kt : y < x → Ev E M tgt ls st h P) (kf : ¬ y < x → Ev E M (pc + 3) ls st h P) : Ev E M pc ls (vI y :: vI x :: st) h P := by
  intro p e R s m args below meth c H locs cells slots lsA ad ad0 h0 hC hL hS
  exact lv_icmp_gt hC.ex hC.cd hd ht (fun q => kt q p e R s m args below meth c H locs cells slots lsA ad ad0 h0 hC hL (lvS_2 (lvS_2 hS))) (fun q => kf q p e R s m args below meth c H locs cells slots lsA ad ad0 h0 hC hL (lvS_2 (lvS_2 hS)))
theorem Ev_if_le {x : Int32} {off : Int} {tgt : Nat} (hd : decode (mB M) pc = .ok (.ifCond .le off, 3)) (ht : (pc : Int) + off = (tgt : Int)) (kt : x ≤ 0 → Ev E M tgt ls st h P) (kf : ¬ x ≤ 0 → Ev E M (pc + 3) ls st h P) : Ev E M pc ls (vI x :: st) h P := by
  intro p e R s m args below meth c H locs cells slots lsA ad ad0 h0 hC hL hS
  exact lv_if_le hC.ex hC.cd hd ht (fun q => kt q p e R s m args below meth c H locs cells slots lsA ad ad0 h0 hC hL (lvS_2 hS)) (fun q => kf q p e R s m args below meth c H locs cells slots lsA ad ad0 h0 hC hL (lvS_2 hS))
theorem Ev_icmp_le {x y : Int32} {off : Int} {tgt : Nat} (hd : decode (mB M) pc = .ok (.if_icmp .le off, 3)) (ht : (pc : Int) + off = (tgt : Int)) (kt : x ≤ y → Ev E M tgt ls st h P) (kf : ¬ x ≤ y → Ev E M (pc + 3) ls st h P) : Ev E M pc ls (vI y :: vI x :: st) h P := by
  intro p e R s m args below meth c H locs cells slots lsA ad ad0 h0 hC hL hS
  exact lv_icmp_le hC.ex hC.cd hd ht (fun q => kt q p e R s m args below meth c H locs cells slots lsA ad ad0 h0 hC hL (lvS_2 (lvS_2 hS))) (fun q => kf q p e R s m args below meth c H locs cells slots lsA ad ad0 h0 hC hL (lvS_2 (lvS_2 hS)))
theorem Ev_goto {off : Int} {tgt : Nat} (hd : decode (mB M) pc = .ok (.goto off, 3)) (ht : (pc : Int) + off = (tgt : Int)) (k : Ev E M tgt ls st h P) : Ev E M pc ls st h P := by
  intro p e R s m args below meth c H locs cells slots lsA ad ad0 h0 hC hL hS
  exact lv_goto hC.ex hC.cd hd ht (k p e R s m args below meth c H locs cells slots lsA ad ad0 h0 hC hL hS)
theorem Ev_tblOut {dflt lo hi : Int} {offs : Array Int} {len : Nat} {x : Int32} {tgt : Nat} (hd : decode (mB M) pc = .ok (.tableswitch dflt lo hi offs, len)) (hx : x.toInt < lo ∨ hi < x.toInt) (ht : (pc : Int) + dflt = (tgt : Int)) (k : Ev E M tgt ls st h P) : Ev E M pc ls (vI x :: st) h P := by
  intro p e R s m args below meth c H locs cells slots lsA ad ad0 h0 hC hL hS
  exact lv_tableOut hC.ex hC.cd hd hx ht (k p e R s m args below meth c H locs cells slots lsA ad ad0 h0 hC hL (lvS_2 hS))
theorem Ev_tblIn {dflt lo hi : Int} {offs : Array Int} {len : Nat} {x : Int32} {off : Int} {tgt : Nat} (hd : decode (mB M) pc = .ok (.tableswitch dflt lo hi offs, len)) (h1 : ¬ x.toInt < lo) (h2 : ¬ hi < x.toInt) (ho : offs[(x.toInt - lo).toNat]? = some off) (ht : (pc : Int) + off = (tgt : Int)) (k : Ev E M tgt ls st h P) : Ev E M pc ls (vI x :: st) h P := by
  intro p e R s m args below meth c H locs cells slots lsA ad ad0 h0 hC hL hS
  exact lv_tableIn hC.ex hC.cd hd h1 h2 ho ht (k p e R s m args below meth c H locs cells slots lsA ad ad0 h0 hC hL (lvS_2 hS))
theorem Ev_ireturn {x : Int32} (hd : decode (mB M) pc = .ok (.ireturn, 1)) {ty : FieldType} (hr : mR M = some ty) (hn : narrow ty (.int x) = .int x) (k : P (.inl (some (vI x))) h) : Ev E M pc ls [vI x] h P := by
  intro p e R s m args below meth c H locs cells slots lsA ad ad0 h0 hC hL hS
  have hlocks : meth.locks = false := hC.2.1.2.2.2.2.2.2.1
  have hr0 : meth.sig.returnType = mR M := hC.2.1.2.2.1
  refine W.mono (fun t q => ?_) (W.zret (Qc := fun _ _ o t => o = .returned (some (.int x)) ∧ t.heap = H) (free := fun z => eZ E ≤ z) hC.ex hC.cd (hr0.trans hr) hn (fun t ht _ => ⟨rfl, ht⟩) hC.2.2.2.2.2.2.1 hd hlocks)
  · obtain ⟨o, a1, a2, ⟨a3, a4⟩, L, ⟨-, b2, b3⟩, b4⟩ := q
    obtain ⟨-, -, hR, hz, hc1, hc2, -, hx⟩ := hC
    subst a3
    refine ⟨_, a1, a2, .inl (some (vI x)), h, ad, b2, ⟨L, ?_, b4⟩, by rw [a4]; exact hR, hx, ⟨rfl, trivial⟩, k⟩
    have e1 : t.heap.size - s.heap.size = cells := by rw [a4]; exact hc1.symm
    have e2 : 512 * cells = slots := by rw [hc2, hc1]
    rw [e1, e2]
    exact b3
theorem Ev_return (hd : decode (mB M) pc = .ok (.return_, 1)) (hr : mR M = none) (k : P (.inl none) h) : Ev E M pc ls [] h P := by
  intro p e R s m args below meth c H locs cells slots lsA ad ad0 h0 hC hL hS
  have hlocks : meth.locks = false := hC.2.1.2.2.2.2.2.2.1
  have hr0 : meth.sig.returnType = mR M := hC.2.1.2.2.1
  refine W.mono (fun t q => ?_) (W.vret (Qc := fun _ _ o t => o = .returned none ∧ t.heap = H) (free := fun z => eZ E ≤ z) hC.ex hC.cd (hr0.trans hr) (fun t ht _ => ⟨rfl, ht⟩) hC.2.2.2.2.2.2.1 hd hlocks)
  · obtain ⟨o, a1, a2, ⟨a3, a4⟩, L, ⟨-, b2, b3⟩, b4⟩ := q
    obtain ⟨-, -, hR, hz, hc1, hc2, -, hx⟩ := hC
    subst a3
    refine ⟨_, a1, a2, .inl none, h, ad, b2, ⟨L, ?_, b4⟩, by rw [a4]; exact hR, hx, rfl, k⟩
    have e1 : t.heap.size - s.heap.size = cells := by rw [a4]; exact hc1.symm
    have e2 : 512 * cells = slots := by rw [hc2, hc1]
    rw [e1, e2]
    exact b3
theorem Ev_areturn {a b : Nat} (hd : decode (mB M) pc = .ok (.areturn, 1)) {C : String} (hr : mR M = some (.object C)) (k : P (.inl (some (vR a b))) h) : Ev E M pc ls [vR a b] h P := by
  intro p e R s m args below meth c H locs cells slots lsA ad ad0 h0 hC hL hS
  have hlocks : meth.locks = false := hC.2.1.2.2.2.2.2.2.1
  have hr0 : meth.sig.returnType = mR M := hC.2.1.2.2.1
  have hv : cv ad (vR a b) = .null ∨ ∃ z, cv ad (vR a b) = .ref z := by
    refine Or.inr ?_
    show ∃ z, (if a = 4 then Value.ref b else Value.ref (ad a b)) = .ref z
    by_cases h4 : a = 4
    · exact ⟨b, by rw [if_pos h4]⟩
    · exact ⟨ad a b, by rw [if_neg h4]⟩
  refine W.mono (fun t q => ?_) (W.aret (v := cv ad (vR a b)) (rt := .object C) (Qc := fun _ _ o t => o = .returned (some (cv ad (vR a b))) ∧ t.heap = H) (free := fun z => eZ E ≤ z) hC.ex hC.cd (hr0.trans hr) (Or.inl ⟨C, rfl⟩) hv (fun t ht _ => ⟨rfl, ht⟩) hC.2.2.2.2.2.2.1 hd hlocks)
  · obtain ⟨o, a1, a2, ⟨a3, a4⟩, L, ⟨-, b2, b3⟩, b4⟩ := q
    have hS0 := lvS_1 hS
    obtain ⟨-, -, hR, hz, hc1, hc2, -, hx⟩ := hC
    subst a3
    refine ⟨_, a1, a2, .inl (some (vR a b)), h, ad, b2, ⟨L, ?_, b4⟩, by rw [a4]; exact hR, hx, ⟨rfl, hS0⟩, k⟩
    have e1 : t.heap.size - s.heap.size = cells := by rw [a4]; exact hc1.symm
    have e2 : 512 * cells = slots := by rw [hc2, hc1]
    rw [e1, e2]
    exact b3
end EvR
