/-! calls, throws, catches -/
def xJ (ct : Nat) : Nat := cond (Nat.beq ct 13) 0 (cond (Nat.beq ct 19) 1 (cond (Nat.beq ct 25) 2 (cond (Nat.beq ct 31) 3 4)))
def okc (z : Nat × Nat × Nat × Nat) : Bool := Nat.beq (xI (xJ z.2.2.2)) z.2.2.2
def hcov (z : Nat × Nat × Nat × Nat) (pc : Nat) : Bool := Nat.ble z.1 pc && Nat.blt pc z.2.1
def hnd : List (Nat × Nat × Nat × Nat) → Nat → Nat → Option Nat
  | [], _, _ => none
  | z :: r, pc, x => cond (hcov z pc && Nat.beq z.2.2.2 (xI x)) (some z.2.2.1) (hnd r pc x)
theorem xJ_lt (ct : Nat) : xJ ct < 5 := by
  unfold xJ
  cases Nat.beq ct 13 <;> cases Nat.beq ct 19 <;> cases Nat.beq ct 25 <;> cases Nat.beq ct 31 <;> decide
theorem xI_ne0 {x : Nat} (q : x < 5) : xI x ≠ 0 := by
  rcases ev_five q with rfl | rfl | rfl | rfl | rfl <;> decide
theorem hnd_split : ∀ (hh : List (Nat × Nat × Nat × Nat)) (pc x t : Nat), hnd hh pc x = some t → ∃ pre z suf, hh = pre ++ z :: suf ∧ hcov z pc = true ∧ z.2.2.2 = xI x ∧ z.2.2.1 = t ∧ ∀ y ∈ pre, hcov y pc = false ∨ y.2.2.2 ≠ xI x
  | [], _, _, _, q => nomatch q
  | z :: r, pc, x, t, q => by
    cases hb : (hcov z pc && Nat.beq z.2.2.2 (xI x))
    · have q' : hnd r pc x = some t := by
        have e : hnd (z :: r) pc x = hnd r pc x := by
          show cond (hcov z pc && Nat.beq z.2.2.2 (xI x)) _ _ = _
          rw [hb]; rfl
        rw [← e]; exact q
      obtain ⟨pre, z', suf, h1, h2, h3, h4, h5⟩ := hnd_split r pc x t q'
      refine ⟨z :: pre, z', suf, by rw [h1]; rfl, h2, h3, h4, fun y hy => ?_⟩
      rcases List.mem_cons.mp hy with rfl | hy
      · simp only [Bool.and_eq_false_iff] at hb
        rcases hb with hb | hb
        · exact Or.inl hb
        · exact Or.inr (nbq' hb)
      · exact h5 y hy
    · simp only [Bool.and_eq_true] at hb
      have e : hnd (z :: r) pc x = some z.2.2.1 := by
        show cond (hcov z pc && Nat.beq z.2.2.2 (xI x)) _ _ = _
        rw [hb.1, hb.2]; rfl
      refine ⟨[], z, r, rfl, hb.1, Nat.eq_of_beq_eq_true hb.2, Option.some.inj (e.symm.trans q), fun y hy => nomatch hy⟩
theorem lvS_mem0 {h : ev_H} : ∀ (l : List ev_V), lvS h l ↔ ∀ v ∈ l, lvV h v
  | [] => ⟨(fun _ _ z => nomatch z), fun _ => trivial⟩
  | a :: t => ⟨fun q v z => (List.mem_cons.mp z).elim (fun e => by rw [e]; exact lvS_1 q) (fun z => (lvS_mem0 t).mp (lvS_2 q) v z), fun q => lvS_c (q a List.mem_cons_self) ((lvS_mem0 t).mpr fun v z => q v (List.mem_cons_of_mem _ z))⟩
theorem lvS_mem {h : ev_H} {l : List ev_V} : lvS h l ↔ ∀ v ∈ l, lvV h v := lvS_mem0 l
def ev_X (E : ev_E) (M : ev_M) (pc : Nat) (ls : List (Nat × ev_V)) (P : Option ev_V ⊕ Nat → ev_H → Prop) (x : Nat) (h' : ev_H) : Prop :=
  (mH M = [] ∧ P (.inr x) h') ∨ ((mY M).cls = "TypedBloodLaw" ∧ (mH M).all okc = true ∧ ∃ t, hnd (mH M) pc x = some t ∧ ∀ q, Ev E M t ls [vR 4 q] h' P)
def ev_K (E : ev_E) (M : ev_M) (pc : Nat) (ls : List (Nat × ev_V)) (st : List ev_V) (P : Option ev_V ⊕ Nat → ev_H → Prop) : Option ev_V ⊕ Nat → ev_H → Prop := fun r h' => match r with
  | .inl none => Ev E M (pc + 3) ls st h' P
  | .inl (some v) => Ev E M (pc + 3) ls (v :: st) h' P
  | .inr x => ev_X E M pc ls P x h'
theorem ev_fin {E : ev_E} {M : ev_M} {p : Program} {e : Env} {R : Room} {s : State} {m : MethodId} {args : Array Value} {below : List Frame} {meth : Method} {c : Code} {ad ad0 : Nat → Nat → Nat} {h h0 : ev_H} {pc : Nat} {ls : List (Nat × ev_V)} {st : List ev_V} {P : Option ev_V ⊕ Nat → ev_H → Prop} {S0 : State} {lsA : Array Slot} {g : JFrame}
    (hL : ev_LR ad h (mL M) ls lsA) (hS : lvS h st) (hg : g = F0 m pc lsA (st.map (cv ad))) (hB : ev_B E M p e R s m args below meth c ad ad0 h h0 (ev_K E M pc ls st P) S0 g 3) : ∃ t, Steps p.tables e below S0 t ∧ ev_QE E s below ad0 h0 P t := by
  subst hg
  obtain ⟨h', ad', T', locs', hC', hx, X', hr⟩ := hB
  rcases hr with ⟨v, hk, hlv, hst⟩ | ⟨x, q, ce, hk, hx5, hce, hcv, hcl, hst⟩
  · cases v with
    | none =>
      have hk' : Ev E M (pc + 3) ls st h' P := hk
      have w := hk' p e R s m args below meth c T'.heap locs' _ _ lsA ad' ad0 h0 hC' (hL.mv hx) (hx.S hS).1
      rw [(hx.S hS).2] at w
      obtain ⟨t, a, b⟩ := w T' rfl X'
      exact ⟨t, hst.trans a, b⟩
    | some v =>
      have hk' : Ev E M (pc + 3) ls (v :: st) h' P := hk
      have w := hk' p e R s m args below meth c T'.heap locs' _ _ lsA ad' ad0 h0 hC' (hL.mv hx) (lvS_c (hlv v rfl) (hx.S hS).1)
      rw [List.map_cons, (hx.S hS).2] at w
      obtain ⟨t, a, b⟩ := w T' rfl X'
      exact ⟨t, hst.trans a, b⟩
  · have htab : c.exceptionTable.toList = tableOf (mH M) := hC'.2.1.2.2.2.2.2.2.2.1
    rcases (show ev_X E M pc ls P x h' from hk) with ⟨hm, hp⟩ | ⟨hlaw, hok, t, hh, hev⟩
    · have hlocks : meth.locks = false := hC'.2.1.2.2.2.2.2.2.1
      obtain ⟨st1, hrun, hend, hW, hsm⟩ := X'.leaveThrown q (g := F0 m pc lsA (st.map (cv ad))) rfl rfl rfl (fun z hz => by rw [htab, hm] at hz; exact nomatch hz) hlocks
      refine ⟨_, hst.trans st1, .threw q, hrun, hend, .inr x, h', ad', hW, ⟨locs', hsm, hC'.2.2.2.2.2.2.1⟩, hC'.2.2.1, hC'.2.2.2.2.2.2.2, ⟨hx5, q, ce, rfl, hce, hcv, hcl⟩, hp⟩
    · obtain ⟨pre, z, suf, g1, g2, g3, g4, g5⟩ := hnd_split (mH M) pc x t hh
      have hpl : e.platform.magicAccessors = ({} : Platform).magicAccessors := by rw [X'.admits.platform]
      have hown : s.vm.findClass "TypedBloodLaw" = some m.cls := hlaw ▸ hC'.own
      obtain ⟨c3, c4, hc3, hc4, hasg⟩ := Cond.castable_spec (hC'.w (xl x hx5).2 args)
      cases Option.some.inj (hc3.symm.trans hcl)
      obtain ⟨c5, hc5, hcl5⟩ := Cond.classLink_spec hown (hC'.w (xl x hx5).1 args) e.platform hpl
      cases Option.some.inj (hc4.symm.trans hc5)
      have hsplit : c.exceptionTable.toList = tableOf pre ++ (⟨z.1, z.2.1, z.2.2.1, z.2.2.2⟩ : ExceptionTableEntry) :: tableOf suf := by
        rw [htab, g1]; simp [tableOf]
      have hcv1 : ∀ y : Nat × Nat × Nat × Nat, covers (⟨y.1, y.2.1, y.2.2.1, y.2.2.2⟩ : ExceptionTableEntry) pc = hcov y pc := by
        intro y
        unfold covers hcov
        have e1 : decide (y.1 ≤ pc) = Nat.ble y.1 pc := by
          cases hb : Nat.ble y.1 pc
          · exact decide_eq_false fun w => by rw [Nat.ble_eq_true_of_le w] at hb; cases hb
          · exact decide_eq_true (Nat.le_of_ble_eq_true hb)
        have e2 : decide (pc < y.2.1) = Nat.blt pc y.2.1 := by
          show decide (pc + 1 ≤ y.2.1) = Nat.ble (pc + 1) y.2.1
          cases hb : Nat.ble (pc + 1) y.2.1
          · exact decide_eq_false fun w => by rw [Nat.ble_eq_true_of_le w] at hb; cases hb
          · exact decide_eq_true (Nat.le_of_ble_eq_true hb)
        show (decide (y.1 ≤ pc) && decide (pc < y.2.1)) = _
        rw [e1, e2]
      obtain ⟨vm', X2, st2⟩ := X'.thenCaughtThrough q (g := F0 m pc lsA (st.map (cv ad))) rfl hst hce (by rw [hcv]; rfl) (by obtain ⟨k9, h9, -⟩ := Vm.findClass_spec hcl; exact ⟨k9, h9⟩) (tableOf pre) ⟨z.1, z.2.1, z.2.2.1, z.2.2.2⟩ (tableOf suf) hsplit
        (fun y hy => by
          obtain ⟨y0, hy0, rfl⟩ := List.mem_map.mp hy
          rcases g5 y0 hy0 with w | w
          · exact Or.inl ((hcv1 y0).trans w)
          · have hok0 : okc y0 = true := List.all_eq_true.mp hok y0 (by rw [g1]; exact List.mem_append_left _ hy0)
            have e0 : xI (xJ y0.2.2.2) = y0.2.2.2 := Nat.eq_of_beq_eq_true hok0
            have hne : x ≠ xJ y0.2.2.2 := fun e9 => w (by rw [← e0, e9])
            have hj := xJ_lt y0.2.2.2
            have hlk := hC'.w (xl (xJ y0.2.2.2) hj).1 args
            rw [e0] at hlk
            obtain ⟨c6, hc6, hcl6⟩ := Cond.classLink_spec hown hlk e.platform hpl
            obtain ⟨a8, b8, n1, n2, n3⟩ := hC'.1.2.2.2.2.2.2.2.2.1 x (xJ y0.2.2.2) hx5 hj hne
            have hal := hC'.wm.alike
            have n1' : s.vm.findClass (xN x) = some a8 := by rw [hal.findClass]; exact n1
            have n2' : s.vm.findClass (xN (xJ y0.2.2.2)) = some b8 := by rw [hal.findClass]; exact n2
            cases Option.some.inj (n1'.symm.trans hcl)
            cases Option.some.inj (n2'.symm.trans hc6)
            refine Or.inr ⟨?_, _, hcl6, by rw [hal.assignable]; exact n3⟩
            show y0.2.2.2 ≠ 0
            rw [← e0]
            exact xI_ne0 hj) ((hcv1 z).trans g2) (Or.inr ⟨by show z.2.2.2 ≠ 0; rw [g3]; exact xI_ne0 hx5, c4, by show s.vm.ClassLinks e.platform m.cls z.2.2.2 c4; rw [g3]; exact hcl5, hasg⟩)
      have w := hev q p e R s m args below meth c T'.heap locs' _ _ lsA ad' ad0 h0 hC' (hL.mv hx) (lvS_c (Or.inl rfl) trivial)
      obtain ⟨t2, a, b⟩ := w (T'.setVm vm') rfl X2
      refine ⟨t2, st2.trans ?_, b⟩
      subst g4
      exact a
/-- what callers of a static method, of another method, of a constructor need of it -/
def stM (M : ev_M) (n : Nat) : Prop := mcw M ∧ wd (.static (mY M)) ∧ (parseMethodDescriptor (mY M).desc).map (fun d => d.parameters.length) = some n ∧ n ≤ mL M
def vtM (M : ev_M) (n : Nat) : Prop := mcw M ∧ wd (.instanceMethod (mY M)) ∧ wd (.selects (mY M).cls (mY M) (mY M)) ∧ (parseMethodDescriptor (mY M).desc).map (fun d => d.parameters.length) = some n ∧ n + 1 ≤ mL M
def itM (M : ev_M) (n : Nat) : Prop := mcw M ∧ wd (.instanceMethod (mY M)) ∧ wd (.code (mY M) (mB M) (mL M) none) ∧ (mY M).name = "<init>" ∧ (parseMethodDescriptor (mY M).desc).map (fun d => d.parameters.length) = some n ∧ n + 1 ≤ mL M
theorem ev_len {d : String} {n : Nat} {l : List Value} (q : (parseMethodDescriptor d).map (fun d => d.parameters.length) = some n) (hl : l.length = n) : ∀ sig, parseMethodDescriptor d = some sig → l.length = sig.parameters.length := by
  intro sig hs
  rw [hs] at q
  rw [hl]
  exact (Option.some.inj q).symm
theorem wt8 {st : List ev_V} {m : MethodId} {pc : Nat} {lsA : Array Slot} {ad : Nat → Nat → Nat} (hw : Nat.ble (wt st) 8 = true) : 2 * (F0 m pc lsA (st.map (cv ad))).monitorRoom + ((F0 m pc lsA (st.map (cv ad))).stack.map fun v => v.category).sum ≤ 8 := by
  show 2 * 0 + ((st.map (cv ad)).map fun v => v.category).sum ≤ 8
  rw [cv_wt]
  have : wt st ≤ 8 := by simpa using hw
  omega
section EvK
variable {E : ev_E} {M M' : ev_M} {pc : Nat} {ls : List (Nat × ev_V)} {st : List ev_V} {h : ev_H} {P : Option ev_V ⊕ Nat → ev_H → Prop}
theorem Ev_callS {as st' : List ev_V} {idx n : Nat} (hd : decode (mB M) pc = .ok (.invokestatic idx, 3)) (hst : st' = as.reverse ++ st) (hn : as.length = n) (hdp : Nat.blt (mD M') (mD M) = true) (mw : stM M' n) (hl : wd (.methodLink (mY M).cls idx (mY M'))) (hsg : as.all sg = true) (hw : Nat.ble (wt st) 8 = true)
    (k : Ev E M' 0 (eargs 0 as) [] h (ev_K E M pc ls st P)) : Ev E M pc ls st' h P := by
  intro p e R s m args below meth c H locs cells slots lsA ad ad0 h0 hC hL hS
  subst hst
  have hlv : lvS h as := lvS_mem.mpr fun v hv => lvS_mem.mp hS v (List.mem_append_left _ (List.mem_reverse.mpr hv))
  have hSt : lvS h st := lvS_mem.mpr fun v hv => lvS_mem.mp hS v (List.mem_append_right _ hv)
  intro T hT X
  have hcode := mw.1.cw hC.1 hC.wm args
  obtain ⟨mk, methM, cM, hnamed, hmethM, -, -, -, -, -, -, hsigM⟩ := Cond.codeWith_spec hcode
  have hstatic : methM.isStatic = true := Cond.static_spec hnamed hmethM (hC.w mw.2.1 args)
  obtain ⟨kP, hkP, -⟩ := className_of_methodNamed hnamed
  have hinitP : kP.init = .initialized := Cond.initialized_spec (findClass_of_methodNamed hnamed) hkP (hC.w mw.1.2.1 args)
  have hstack : ((as.reverse ++ st).map (cv ad)) = (as.map (cv ad)).reverse ++ st.map (cv ad) := by rw [List.map_append, List.map_reverse]
  obtain ⟨vm₁, X₁, hstep₁⟩ := X.invokestatic hC.ex hC.own (hC.w hl args) hnamed hmethM hstatic hkP hinitP ⟨mw.1.2.2.2.1, mw.1.2.2.2.2.1⟩ (g := F0 m pc lsA ((as.reverse ++ st).map (cv ad))) rfl (argsL := as.map (cv ad)) (rest := st.map (cv ad)) (ev_len mw.2.2.1 (by rw [List.length_map]; exact hn) _ hsigM) hstack (by rw [hC.cd]; exact hd)
  have hB := ev_call (M := M) (M' := M') (as := as) (args := args) hC (by simpa [Nat.blt_eq] using hdp) mw.1 hsg (by rw [hn]; exact mw.2.2.2) hlv k (T := T.setVm vm₁) hT X₁ (g := F0 m pc lsA (st.map (cv ad))) rfl (hL.sz.trans hC.ml.symm) (by rw [hC.cd]; exact hd) (wt8 hw) (X₁.named hnamed)
  obtain ⟨t, a, b⟩ := ev_fin hL hSt rfl hB
  exact ⟨t, hstep₁ _ fun acts => by rw [doInvoke_state]; exact a, b⟩
theorem Ev_callV {as st' : List ev_V} {idx n a i ci : Nat} (hd : decode (mB M) pc = .ok (.invokevirtual idx, 3)) (hst : st' = as.reverse ++ vR a i :: st) (hn : as.length = n) (ha : Nat.blt a 4 = true) (hs : shp a i = (0, ci)) (hci : Nat.blt ci 5 = true) (hcl : (mY M').cls = vNm ci) (hdp : Nat.blt (mD M') (mD M) = true) (mw : vtM M' n) (hl : wd (.methodLink (mY M).cls idx (mY M'))) (hsg : as.all sg = true) (hw : Nat.ble (wt st) 8 = true)
    (k : Ev E M' 0 (eargs 0 (vR a i :: as)) [] h (ev_K E M pc ls st P)) : Ev E M pc ls st' h P := by
  intro p e R s m args below meth c H locs cells slots lsA ad ad0 h0 hC hL hS
  subst hst
  have hr0 : lvV h (vR a i) := lvS_mem.mp hS _ (List.mem_append_right _ List.mem_cons_self)
  have hlv : lvS h (vR a i :: as) := lvS_c hr0 (lvS_mem.mpr fun v hv => lvS_mem.mp hS v (List.mem_append_left _ (List.mem_reverse.mpr hv)))
  have hSt : lvS h st := lvS_mem.mpr fun v hv => lvS_mem.mp hS v (List.mem_append_right _ (List.mem_cons_of_mem _ hv))
  obtain ⟨k4, hi4, hz, q1, q2, q3⟩ := ev_obj hC ha hr0
  have c0 := q3.1 (by rw [hs])
  rw [hs] at c0
  obtain ⟨⟨cell, o1, o2, o3, o4⟩, o5⟩ := c0
  have hfc := (ev_cls hC (ci := ci) (by simpa [Nat.blt_eq] using hci)).2.1
  rw [← hcl, ← o2] at hfc
  intro T hT X
  have hcode := mw.1.cw hC.1 hC.wm args
  obtain ⟨mk, methM, hnamed, hmethM, hstM, habM⟩ := Cond.instanceMethod_spec (hC.w mw.2.1 args)
  obtain ⟨m8, methM', cM, hn8, hmethM', -, -, -, -, -, -, hsigM⟩ := Cond.codeWith_spec hcode
  cases Option.some.inj (hn8.symm.trans hnamed)
  cases hmethM.symm.trans hmethM'
  obtain ⟨c2, r2, m2, p1, p2, p3, p4, kP, hkP, hkPi⟩ := Cond.selects_spec (hC.w mw.2.2.1 args)
  cases hfc.symm.trans p1
  cases (State.methodFound?_of_named hnamed ⟨mw.1.2.2.2.1, mw.1.2.2.2.2.1⟩).symm.trans p2
  cases hnamed.symm.trans p3
  have hselP : selectMethod e.platform s.vm cell.cls mk = .method mk := by rw [Launch.admits_selectMethod X.admits]; exact p4
  have hstack : ((as.reverse ++ vR a i :: st).map (cv ad)) = (as.map (cv ad)).reverse ++ .ref (ad a i) :: st.map (cv ad) := by rw [List.map_append, List.map_reverse, List.map_cons, hz]
  have hargs : (Value.ref (ad a i) :: as.map (cv ad)).toArray = ((vR a i :: as).map (cv ad)).toArray := by rw [List.map_cons, hz]
  obtain ⟨vm₁, X₁, hstep₁⟩ := X.invokevirtual hC.ex hC.own (hC.w hl args) hnamed hmethM hstM hkP hkPi ⟨mw.1.2.2.2.1, mw.1.2.2.2.2.1⟩ (a := ad a i) (cell := cell) (by rw [hT]; exact o1)
    (fun z hq => by rw [o3] at hq; cases hq) hselP hmethM habM hkP hkPi (g := F0 m pc lsA ((as.reverse ++ vR a i :: st).map (cv ad))) rfl (argsL := as.map (cv ad)) (rest := st.map (cv ad)) (ev_len mw.2.2.2.1 (by rw [List.length_map]; exact hn) _ hsigM) hstack (by rw [hC.cd]; exact hd)
  have hB := ev_call (M := M) (M' := M') (as := vR a i :: as) (args := args) hC (by simpa [Nat.blt_eq] using hdp) mw.1 (by rw [List.all_cons, hsg]; rfl) (by rw [List.length_cons, hn]; exact mw.2.2.2.2) hlv k (T := T.setVm vm₁) hT X₁ (g := F0 m pc lsA (st.map (cv ad))) rfl (hL.sz.trans hC.ml.symm) (by rw [hC.cd]; exact hd) (wt8 hw) (X₁.named hnamed)
  obtain ⟨t, a', b⟩ := ev_fin hL hSt rfl hB
  exact ⟨t, hstep₁ _ fun acts => by rw [doInvoke_state, hargs]; exact a', b⟩
theorem Ev_callI {as st' : List ev_V} {idx n a i : Nat} (hd : decode (mB M) pc = .ok (.invokespecial idx, 3)) (hst : st' = as.reverse ++ vR a i :: st) (hn : as.length = n) (ha : Nat.blt a 4 = true) (hdp : Nat.blt (mD M') (mD M) = true) (mw : itM M' n) (hl : wd (.methodLink (mY M).cls idx (mY M'))) (hsg : as.all sg = true) (hw : Nat.ble (wt st) 8 = true)
    (k : Ev E M' 0 (eargs 0 (vR a i :: as)) [] h (ev_K E M pc ls st P)) : Ev E M pc ls st' h P := by
  intro p e R s m args below meth c H locs cells slots lsA ad ad0 h0 hC hL hS
  subst hst
  have hr0 : lvV h (vR a i) := lvS_mem.mp hS _ (List.mem_append_right _ List.mem_cons_self)
  have hlv : lvS h (vR a i :: as) := lvS_c hr0 (lvS_mem.mpr fun v hv => lvS_mem.mp hS v (List.mem_append_left _ (List.mem_reverse.mpr hv)))
  have hSt : lvS h st := lvS_mem.mpr fun v hv => lvS_mem.mp hS v (List.mem_append_right _ (List.mem_cons_of_mem _ hv))
  obtain ⟨k4, hi4, hz, q1, q2, q3⟩ := ev_obj hC ha hr0
  intro T hT X
  have hstack : ((as.reverse ++ vR a i :: st).map (cv ad)) = (as.map (cv ad)).reverse ++ .ref (ad a i) :: st.map (cv ad) := by rw [List.map_append, List.map_reverse, List.map_cons, hz]
  have hargs : (Value.ref (ad a i) :: as.map (cv ad)).toArray = ((vR a i :: as).map (cv ad)).toArray := by rw [List.map_cons, hz]
  obtain ⟨mk, methM, cM, kP, vm₁, hnamed, hmethM, -, -, -, -, hkP, -, hW₁, hstep₁⟩ := Steps.initColdArgs X.here hC.ex X.warmed X.magic hC.own (t := mY M') mw.2.2.2.1 ⟨mw.1.2.2.2.1, mw.1.2.2.2.2.1⟩ (hC.w hl args) (hC.w mw.2.1 args) (hC.w mw.2.2.1 args) (f := F0 m pc lsA ((as.reverse ++ vR a i :: st).map (cv ad))) rfl (ev_len mw.2.2.2.2.1 (by rw [List.length_map]; exact hn)) hstack (by rw [hC.cd]; exact hd)
  have X₁ := X.noted hW₁
  have hB := ev_call (M := M) (M' := M') (as := vR a i :: as) (args := args) hC (by simpa [Nat.blt_eq] using hdp) mw.1 (by rw [List.all_cons, hsg]; rfl) (by rw [List.length_cons, hn]; exact mw.2.2.2.2.2) hlv k (T := T.setVm vm₁) hT X₁ (g := F0 m pc lsA (st.map (cv ad))) rfl (hL.sz.trans hC.ml.symm) (by rw [hC.cd]; exact hd) (wt8 hw) (X₁.named hnamed)
  obtain ⟨t, a', b⟩ := ev_fin hL hSt rfl hB
  exact ⟨t, hstep₁ _ fun acts => by rw [doInvoke_state, hargs]; exact a', b⟩
/-- throw new X("text"): what is needed of the pool -/
def xS (x : Nat) : List String := ["java/lang/RuntimeException", "java/lang/Exception"]
/-- where a constructor has the one above in its pool, and its bytes -/
def xIx (x : Nat) : Nat := cond (Nat.beq x 2) 13 7
def xRx (x : Nat) : ByteArray := cond (Nat.beq x 2) ⟨#[0x2a, 0x2b, 0xb7, 0x00, 0x0d, 0xb1]⟩ ⟨#[0x2a, 0x2b, 0xb7, 0x00, 0x07, 0xb1]⟩
theorem xR0 (x : Nat) : decode (xRx x) 0 = .ok (.aload_n 0, 1) ∧ decode (xRx x) 1 = .ok (.aload_n 1, 1) ∧ decode (xRx x) 2 = .ok (.invokespecial (xIx x), 3) ∧ decode (xRx x) 5 = .ok (.return_, 1) := by
  unfold xRx xIx
  cases Nat.beq x 2
  · exact ⟨by decide +kernel, by decide +kernel, by decide +kernel, by decide +kernel⟩
  · exact ⟨by decide +kernel, by decide +kernel, by decide +kernel, by decide +kernel⟩
def thr (own : String) (ik is ic : Nat) (text : String) (x : Nat) : Prop := x < 5 ∧ wd (.classLink own ik (xN x)) ∧ wd (.initialized (xN x)) ∧ Cond.stringRef own is text ∈ lw_tbl ∧ (∀ w ∈ ev_at own ic (xN x) (xIx x) (xRx x) (xS x), wd w) ∧ Bundle.fit (xN x) = true ∧ (∀ n ∈ xS x, Bundle.fit n = true) ∧ ∀ ty, Cond.arrayOver ty ∉ ev_at own ic (xN x) (xIx x) (xRx x) (xS x)
theorem gw_ot {w : Cond} (hg : gw w = true) (hn : ∀ ty, w ≠ .arrayOver ty) : vx_ot w = true := by
  unfold vx_ot
  by_cases hq : goodWord w = true
  · rw [hq, Bool.or_true]
  · have hn' : goodWord w = false := by simpa using hq
    unfold gw at hg
    rw [hn'] at hg
    cases w with
    | castable C T => rfl
    | declares x => rfl
    | arrayOver ty => exact absurd rfl (hn ty)
    | _ => exact Bool.noConfusion hg
theorem ev_thrown {p : Program} {R : Room} {s : State} {m : MethodId} {below : List Frame} {meth : Method} {c : Code} {H : Heap} {locs : List Loc} {cells slots : Nat} {ad ad0 : Nat → Nat → Nat} {h0 : ev_H} {x : Nat} (hC : ev_C E M p R s m meth c H locs cells slots ad ad0 h h0) (hx5 : x < 5) (hZ : cZ h < ZM) (kk : P (.inr x) (nx h))
    (U : State) (ce : Cell) (u1 : U.status = .running) (u2 : Ended U below (.threw H.size)) (u3 : s.WarmedH U.vm) (u4 : s.sameButNew ({ U with vm := s.vm } : State) locs (cells + 1) (slots + 6)) (u5 : U.heap.size = H.size + 1) (u6 : ∀ q : Nat, q < H.size → U.heap[q]? = H[q]?) (u7 : U.heap[H.size]? = some ce) (u8 : ce.vm = .none) (u9 : s.vm.findClass (xN x) = some ce.cls) : ev_QE E s below ad0 h0 P U := by
  have z1 := hC.2.2.2.1
  have z2 := hC.2.2.2.2.1
  have z3 := hC.2.2.2.2.2.1
  refine ⟨_, u1, u2, .inr x, nx h, ad, u3, ⟨locs, u4.mono (by omega) (by omega), hC.2.2.2.2.2.2.1⟩, hC.2.2.1.thr1 hZ u5 u6, hC.2.2.2.2.2.2.2.tr xt_nx, ⟨hx5, H.size, ce, rfl, u7, u8, u9⟩, kk⟩
theorem Ev_throw {ik is ic x : Nat} {text : String} (d0 : decode (mB M) pc = .ok (.new ik, 3)) (d3 : decode (mB M) (pc + 3) = .ok (.dup, 1)) (d4 : decode (mB M) (pc + 4) = .ok (.ldc is, 2)) (d6 : decode (mB M) (pc + 6) = .ok (.invokespecial ic, 3)) (d9 : decode (mB M) (pc + 9) = .ok (.athrow, 1)) (hm : mH M = []) (hdp : Nat.ble 4 (mD M) = true) (ht : thr (mY M).cls ik is ic text x) (hw : Nat.ble (wt st) 8 = true) (hZ : cZ h < ZM) (kk : P (.inr x) (nx h)) : Ev E M pc ls st h P := by
  intro p e R s m args below meth c H locs cells slots lsA ad ad0 h0 hC hL hS
  obtain ⟨t1, t2, t3, t4, t5, t6, t7, t8⟩ := ht
  obtain ⟨sa, hstr⟩ := hC.1.2.2.2.2.2.2.2.1 _ _ _ t4
  obtain ⟨rc, rs⟩ := ev_room hC hZ (N := 6) (by decide)
  have i9 := hC.wm
  have i10 := hC.2.1.2.2.2.2.2.2.2.2.2.1
  have i12 := hC.2.1.2.2.2.2.2.2.2.2.2.2.2.1
  have i13 := hC.2.1.2.2.2.2.2.2.2.2.2.2.2.2.1
  have hd4 : 4 ≤ mD M := by simpa using hdp
  have hw8 : wt st ≤ 8 := by simpa using hw
  have htab : c.exceptionTable.toList = tableOf (mH M) := hC.2.1.2.2.2.2.2.2.2.1
  refine ev_thrS (A := fun q => eZ E ≤ q) (names := xS x) hC.ex hC.cd hC.1.1 (xR0 x).1 (xR0 x).2.1 (xR0 x).2.2.1 (xR0 x).2.2.2 hC.own t6 t7 (hC.w t2 args) (hC.w t3 args) (vk_R.warm i9 hstr) (fun w hw => hC.w (t5 w hw) args) (fun w hw => ?_) (vx_Zq.moved i9.alike (hC.1.2.2.2.2.2.1.kept fun a _ hA => i10 a (Nat.not_le.mp hA))) (vx_Zq.moved i9.alike (hC.1.2.2.2.2.2.2.1.kept fun a _ hA => i10 a (Nat.not_le.mp hA))) hC.old (hL.sz.trans hC.ml.symm) d0 d3 d4 d6 d9 (fun z hz => by rw [htab, hm] at hz; exact nomatch hz) ?_ ?_ rc rs hC.2.1.2.2.2.2.2.2.1 (fun U ce u1 u2 u3 u4 u5 u6 u7 u8 u9 => ev_thrown hC t1 hZ kk U ce u1 u2 u3 u4 u5 u6 u7 u8 u9)
  · have hg : gw w = true := by
      rcases List.mem_cons.mp hw with rfl | hw
      · exact t2.2
      · rcases List.mem_cons.mp hw with rfl | hw
        · exact t3.2
        · exact (t5 w hw).2
    exact gw_ot hg (fun ty e => by
      subst e
      rcases List.mem_cons.mp hw with z | hw
      · cases z
      · rcases List.mem_cons.mp hw with z | hw
        · cases z
        · exact t8 ty hw)
  · show 2 + 3 < R.frames
    omega
  · rw [cv_wt]
    show wt st + (13 * (2 + 1) + 43) ≤ R.locals
    omega
theorem Ev_throwW {ik is ic x : Nat} {text : String} (d0 : decode (mB M) pc = .ok (.new ik, 3)) (d3 : decode (mB M) (pc + 3) = .ok (.dup, 1)) (d4 : decode (mB M) (pc + 4) = .ok (.ldc_w is, 3)) (d7 : decode (mB M) (pc + 7) = .ok (.invokespecial ic, 3)) (d10 : decode (mB M) (pc + 10) = .ok (.athrow, 1)) (hm : mH M = []) (hdp : Nat.ble 4 (mD M) = true) (ht : thr (mY M).cls ik is ic text x) (hw : Nat.ble (wt st) 8 = true) (hZ : cZ h < ZM) (kk : P (.inr x) (nx h)) : Ev E M pc ls st h P := by
  intro p e R s m args below meth c H locs cells slots lsA ad ad0 h0 hC hL hS
  obtain ⟨t1, t2, t3, t4, t5, t6, t7, t8⟩ := ht
  obtain ⟨sa, hstr⟩ := hC.1.2.2.2.2.2.2.2.1 _ _ _ t4
  obtain ⟨rc, rs⟩ := ev_room hC hZ (N := 6) (by decide)
  have i9 := hC.wm
  have i10 := hC.2.1.2.2.2.2.2.2.2.2.2.1
  have i12 := hC.2.1.2.2.2.2.2.2.2.2.2.2.2.1
  have i13 := hC.2.1.2.2.2.2.2.2.2.2.2.2.2.2.1
  have hd4 : 4 ≤ mD M := by simpa using hdp
  have hw8 : wt st ≤ 8 := by simpa using hw
  have htab : c.exceptionTable.toList = tableOf (mH M) := hC.2.1.2.2.2.2.2.2.2.1
  refine ev_thrW (A := fun q => eZ E ≤ q) (names := xS x) hC.ex hC.cd hC.1.1 (xR0 x).1 (xR0 x).2.1 (xR0 x).2.2.1 (xR0 x).2.2.2 hC.own t6 t7 (hC.w t2 args) (hC.w t3 args) (vk_R.warm i9 hstr) (fun w hw => hC.w (t5 w hw) args) (fun w hw => ?_) (vx_Zq.moved i9.alike (hC.1.2.2.2.2.2.1.kept fun a _ hA => i10 a (Nat.not_le.mp hA))) (vx_Zq.moved i9.alike (hC.1.2.2.2.2.2.2.1.kept fun a _ hA => i10 a (Nat.not_le.mp hA))) hC.old (hL.sz.trans hC.ml.symm) d0 d3 d4 d7 d10 (fun z hz => by rw [htab, hm] at hz; exact nomatch hz) ?_ ?_ rc rs hC.2.1.2.2.2.2.2.2.1 (fun U ce u1 u2 u3 u4 u5 u6 u7 u8 u9 => ev_thrown hC t1 hZ kk U ce u1 u2 u3 u4 u5 u6 u7 u8 u9)
  · have hg : gw w = true := by
      rcases List.mem_cons.mp hw with rfl | hw
      · exact t2.2
      · rcases List.mem_cons.mp hw with rfl | hw
        · exact t3.2
        · exact (t5 w hw).2
    exact gw_ot hg (fun ty e => by
      subst e
      rcases List.mem_cons.mp hw with z | hw
      · cases z
      · rcases List.mem_cons.mp hw with z | hw
        · cases z
        · exact t8 ty hw)
  · show 2 + 3 < R.frames
    omega
  · rw [cv_wt]
    show wt st + (13 * (2 + 1) + 43) ≤ R.locals
    omega
end EvK
