/-! from the machine's start to the law's walk, and from its end to the claim -/
theorem ws_arI {s : State} {a : Array Value} (h : (Cond.arrayClass .int).before a s = true) : ∃ cA, ArrOfT s cA .int ∧ va_RA s cA .int := by
  obtain ⟨cA, kA, comp, h1, h2, h3⟩ := Cond.arrayClass_spec (show (Cond.arrayClass .int).holds a s none s [] = true from h)
  exact ⟨cA, fun n z => ⟨fun k h => (by cases h), kA, h2, comp, h3⟩, h1⟩
theorem ws_arL {s : State} {a : Array Value} (h : (Cond.arrayClass .long).before a s = true) : ∃ cA, ArrOfT s cA .long ∧ va_RA s cA .long := by
  obtain ⟨cA, kA, comp, h1, h2, h3⟩ := Cond.arrayClass_spec (show (Cond.arrayClass .long).holds a s none s [] = true from h)
  exact ⟨cA, fun n z => ⟨fun k h => (by cases h), kA, h2, comp, h3⟩, h1⟩
theorem ws_arO {s : State} {a : Array Value} {C : String} (h : (Cond.arrayOver (.object C)).before a s = true) : ∃ cA, ArrOfT s cA (.object C) ∧ va_RA s cA (.object C) := by
  obtain ⟨comp, cA, kA, h1, -, h2, h3, h4⟩ := Cond.arrayOver_spec (show (Cond.arrayOver (.object C)).holds a s none s [] = true from h)
  exact ⟨cA, fun n z => ⟨fun k h => (by cases h), kA, h2, comp, h3⟩, kA, comp, h2, h3, h1, h4⟩
theorem ws_kn {s : State} {a : Array Value} {C : String} {T : u_T} {N : Nat} (hts : ∀ w ∈ lw_tbl, w.before a s = true) (hin : ∀ f, f < N → u_lay C T f ∈ lw_tbl.filter goodWord) (hi : (Cond.instantiable C N).before a s = true) : ∃ (cC : ClassId) (iS : Nat → Nat), u_Kn s C T N cC iS := by
  refine u_known (ws := lw_tbl.filter goodWord) (fun w hw => hts w (List.mem_filter.mp hw).1) (fun w hw => ?_) hi
  obtain ⟨f, hf, rfl⟩ := List.mem_map.mp hw
  exact hin f (List.mem_range.mp hf)
theorem ws_K {s : State} {a : Array Value} (hts : ∀ w ∈ lw_tbl, w.before a s = true) : ∃ (D : va_G) (cc : Nat → ClassId), va_K D vC [(cc 0, .int), (cc 1, .long), (cc 2, .object "TypedBlood$Unit"), (cc 3, .object "TypedBlood$Patient")] s := by
  obtain ⟨c0, f0, k0⟩ := ws_kn hts T0_in (hts _ ww_49.1)
  obtain ⟨c1, f1, k1⟩ := ws_kn hts T1_in (hts _ ww_226.1)
  obtain ⟨c2, f2, k2⟩ := ws_kn hts T2_in (hts _ ww_416.1)
  obtain ⟨c3, f3, k3⟩ := ws_kn hts T3_in (hts _ ww_61.1)
  obtain ⟨c4, f4, k4⟩ := ws_kn hts T4_in (hts _ ww_751.1)
  obtain ⟨a0, b0⟩ := ws_arI (hts _ w_ac_int.1)
  obtain ⟨a1, b1⟩ := ws_arL (hts _ w_ac_long.1)
  obtain ⟨a2, b2⟩ := ws_arO (hts _ w_ao_3.1)
  obtain ⟨a3, b3⟩ := ws_arO (hts _ w_ao_4.1)
  refine ⟨(fun c => cond (Nat.beq c 0) c0 (cond (Nat.beq c 1) c1 (cond (Nat.beq c 2) c2 (cond (Nat.beq c 3) c3 c4))), fun c => cond (Nat.beq c 0) f0 (cond (Nat.beq c 1) f1 (cond (Nat.beq c 2) f2 (cond (Nat.beq c 3) f3 f4)))), fun c => cond (Nat.beq c 0) a0 (cond (Nat.beq c 1) a1 (cond (Nat.beq c 2) a2 a3)), fun c q hq => ?_, fun c q hq => ?_⟩
  · have hc : c < 5 := (List.getElem?_eq_some_iff.mp hq).1
    rcases ev_five hc with rfl | rfl | rfl | rfl | rfl
    · cases hq; exact k0
    · cases hq; exact k1
    · cases hq; exact k2
    · cases hq; exact k3
    · cases hq; exact k4
  · have hc : c < 4 := (List.getElem?_eq_some_iff.mp hq).1
    have e : c = 0 ∨ c = 1 ∨ c = 2 ∨ c = 3 := by omega
    rcases e with rfl | rfl | rfl | rfl
    · cases hq; exact b0
    · cases hq; exact b1
    · cases hq; exact b2
    · cases hq; exact b3
def ws_E (l : Launch) (s : State) (b L : Nat) (xs : Nat → Int32) (D : va_G) (cc : Nat → ClassId) (t1 t2 : Nat) : ev_E := (l, s, #[Value.ref b], D, cc, fun i => cond (Nat.beq i 0) b (cond (Nat.beq i 1) t1 t2), fun i => cond (Nat.beq i 0) L 4, fun i j => cond (Nat.beq i 0) (xs j) (tab i j))
theorem ws_G {l : Launch} {s : State} {b L : Nat} {xs : Nat → Int32} {D : va_G} {cc : Nat → ClassId} {t1 t2 : Nat} (hst : l.stackTraces = false) (hts : ∀ w ∈ lw_tbl, w.before #[Value.ref b] s = true)
    (hK : va_K D vC [(cc 0, .int), (cc 1, .long), (cc 2, .object "TypedBlood$Unit"), (cc 3, .object "TypedBlood$Patient")] s) (hX : va_X b L xs s s.heap)
    (hT1 : va_T .int t1 4 (fun j => .int (tab 1 j)) (fun q => s.heap.size ≤ q) s s.heap) (hT2 : va_T .int t2 4 (fun j => .int (tab 2 j)) (fun q => s.heap.size ≤ q) s s.heap)
    (hZ1 : va_Z "TypedBlood" "ADDED_MARK" "[I" (.ref t1) (fun q => s.heap.size ≤ q) s s.heap) (hZ2 : va_Z "TypedBlood" "PRODUCT_LIMIT" "[I" (.ref t2) (fun q => s.heap.size ≤ q) s s.heap)
    (hU : vx_Zq Bundle.tN "UNASSIGNED_STACK" Bundle.steD (fun q => s.heap.size ≤ q) s s.heap) (hN : vx_Zq Bundle.tN "SUPPRESSED_SENTINEL" Bundle.listD (fun q => s.heap.size ≤ q) s s.heap)
    (hNc : ∀ x y, x < 5 → y < 5 → x ≠ y → va_Nc (xN x) (xN y) s) : ev_G (ws_E l s b L xs D cc t1 t2) := by
  refine ⟨hst, hts, hK, fun i hi => ?_, fun i hi => ?_, hU, hN, fun own is text hw => ?_, hNc, rfl, rfl, fun j hj => ⟨rfl, rfl⟩⟩
  · have e : i = 0 ∨ i = 1 ∨ i = 2 := by omega
    rcases e with rfl | rfl | rfl
    · obtain ⟨scr, h1, h2, h3, h4, h5⟩ := hX
      have hb : b < s.heap.size := (Array.getElem?_eq_some_iff.mp h1).1
      exact ⟨hb, scr, h1, h2, h3, Nat.le_of_eq h4.symm, congrArg Int32.ofNat h4, h5, Nat.not_le.mpr hb⟩
    · obtain ⟨cell, q1, q2, q3, q4, q5, q6, q7⟩ := hT1
      exact ⟨Nat.not_le.mp q7, cell, q1, q2, q3, q4, q5, q6, q7⟩
    · obtain ⟨cell, q1, q2, q3, q4, q5, q6, q7⟩ := hT2
      exact ⟨Nat.not_le.mp q7, cell, q1, q2, q3, q4, q5, q6, q7⟩
  · have e : i = 0 ∨ i = 1 := by omega
    rcases e with rfl | rfl
    · exact hZ1
    · exact hZ2
  · have h : (Cond.stringRef own is text).holds #[Value.ref b] s none s [] = true := hts _ hw
    cases hf : s.vm.findClass own with
    | none =>
      exfalso
      simp [Cond.holds, Cond.value, hf] at h
    | some cur =>
      obtain ⟨-, -, -, sa, -, -, -, -, -, hev⟩ := Cond.stringRef_spec hf h
      exact ⟨sa, vk_R.of (hts _ hw) hev⟩
theorem cnt_h00 (k : Nat) : cnt h00 k = 0 := by
  unfold cnt
  cases Nat.beq k 0 <;> cases Nat.beq k 1 <;> cases Nat.beq k 2 <;> rfl
/-! THE CLAIM OUT OF ONE WALK OF THE LAW'S BODY. -/
def R_law : String := "TypedBloodLaw"
def lw_P (b : Addr) (xs : List Int32) (args : Array Value) (s : State) : Prop := args = #[.ref b] ∧ s.IntsAt b xs ∧ xs.length ≤ 3072 ∧ (Jvm.Cond.and given_1 narrow_1).before args s = true
def lw_Q (_ : Array Value) (s : State) (o : Outcome) (t : State) : Prop := o = .returned (some (.int 1)) ∧ Framed s o t [] 601024 7293034
def lw_Z (below : List Frame) (a : Array Value) (s : State) : State → Prop := fun t => ∃ o, t.status = .running ∧ Ended t below o ∧ lw_Q a s o t
theorem ws_run {p : Program} {e : Env} {s : State} {m : MethodId} {below : List Frame} {meth : Method} {c : Code} {l : Launch} {b L : Nat} {xs : Nat → Int32} {D : va_G} {cc : Nat → ClassId} {t1 t2 : Nat} (hG : ev_G (ws_E l s b L xs D cc t1 t2)) (hL : L ≤ 3072) (hx : p.tables.exec = Jvm.exec) (hcode : c.code = code) (hret : meth.sig.returnType = ret) (hml : c.maxLocals = 7) (hown : s.vm.findClass R_law = some m.cls) (hlk : meth.locks = false) (htab : c.exceptionTable.toList = tableOf []) (hnm : meth.name = "law") :
    W p l e room_1 s m #[Value.ref b] below meth c s.heap [] 0 0 (lw_Z below #[Value.ref b] s) (entryFrame m ([Value.ref b] : List Value).toArray 7) := by
  have hI : ev_I (ws_E l s b L xs D cc t1 t2) M_LW_law p room_1 s m meth c := ⟨hx, hcode, hret, hml, hown, hnm, hlk, htab, State.WarmedH.refl s, fun q _ => rfl, Nat.le_refl _, by decide, by decide, Nat.add_le_add_left (show ZM ≤ room_1.cells by decide) s.heap.size, by
    show 512 * (s.heap.size + 4096 - s.heap.size) ≤ 7293034
    omega⟩
  have hR : Rl (ws_E l s b L xs D cc t1 t2) (fun _ i => eO (ws_E l s b L xs D cc t1 t2) i) h00 s.heap := ⟨rfl, by decide, fun q _ => rfl, fun i _ => rfl, fun k i _ hi => by rw [cnt_h00] at hi; omega, fun k i k' i' _ _ hi => by rw [cnt_h00] at hi; omega⟩
  have hC : ev_C (ws_E l s b L xs D cc t1 t2) M_LW_law p room_1 s m meth c s.heap [] 0 0 (fun _ i => eO (ws_E l s b L xs D cc t1 t2) i) (fun _ i => eO (ws_E l s b L xs D cc t1 t2) i) h00 h00 := ⟨hG, hI, hR, Nat.le_refl _, by omega, by omega, (fun q hq => nomatch hq), xt.rf⟩
  have hev := lw_law (E := ws_E l s b L xs D cc t1 t2) (P := fun r _ => r = .inl (some (vI 1))) hL (fun _ _ _ _ _ => rfl)
  have hm : ([vR 5 0] : List ev_V).map (cv (fun _ i => eO (ws_E l s b L xs D cc t1 t2) i)) = [Value.ref b] := rfl
  have hen := lv_entry (([vR 5 0] : List ev_V).map (cv (fun _ i => eO (ws_E l s b L xs D cc t1 t2) i))) (n := 7) (by rw [ev_sl _ rfl]; decide)
  have w := hev p e room_1 s m #[Value.ref b] below meth c s.heap [] 0 0 _ (fun _ i => eO (ws_E l s b L xs D cc t1 t2) i) (fun _ i => eO (ws_E l s b L xs D cc t1 t2) i) h00 hC ⟨_, hen, ev_entry [vR 5 0] 0 rfl ⟨Or.inr (Or.inl ⟨rfl, by decide⟩), trivial⟩⟩ trivial
  rw [hm] at w
  rw [lg_entry_eq]
  refine W.mono (fun t q => ?_) w
  obtain ⟨o, a1, a2, r, h', ad', b1, ⟨Lc, b2, b3⟩, b4, b5, b6, b7⟩ := q
  subst b7
  have b61 : o = .returned (some (.int 1)) := b6.1
  have hz : t.heap.size = s.heap.size + cZ h' := b4.1
  have hz2 : cZ h' ≤ 4096 := b4.2.1
  refine ⟨o, a1, a2, b61, ⟨_, b61⟩, b1, b2.weaken (fun y hy hlt => absurd (b3 y hy) (Nat.not_le.mpr hlt)) (by omega) (by omega)⟩
/-- what holds at the law's entry -/
def lw_At (p : Program) (s : State) (m : MethodId) (meth : Method) (c : Code) (b L : Nat) (xs : Nat → Int32) : Prop :=
  p.tables.exec = Jvm.exec ∧ c.code = code ∧ meth.sig.returnType = ret ∧ c.maxLocals = 7 ∧ s.vm.findClass R_law = some m.cls ∧ (∀ w ∈ lw_tbl, w.before #[Value.ref b] s = true) ∧ va_X b L xs s s.heap ∧ b < s.heap.size ∧ meth.locks = false ∧ (Jvm.Cond.and given_1 narrow_1).before #[Value.ref b] s = true
theorem ws_t1 {s : State} {a : Array Value} (hts : ∀ w ∈ lw_tbl, w.before a s = true) (hs : ∀ w ∈ flatC (Jvm.Cond.and given_1 narrow_1), w.before a s = true) : ∃ t, va_T .int t 4 (fun j => .int (tab 1 j)) (fun q => s.heap.size ≤ q) s s.heap ∧ va_Z "TypedBlood" "ADDED_MARK" "[I" (.ref t) (fun q => s.heap.size ≤ q) s s.heap := by
  have hA : ∀ q : Nat, q < s.heap.size → ¬ s.heap.size ≤ q := fun q h => Nat.not_le.mpr h
  have hlen := va_eqt (hs (.eq (.length (.static "TypedBlood" "ADDED_MARK" "[I")) (.int 4)) (by decide +kernel))
  have e0 := va_eqt (hs (.eq (.elem (.static "TypedBlood" "ADDED_MARK" "[I") (.int 0)) (.int 0)) (by decide +kernel))
  have e1 := va_eqt (hs (.eq (.elem (.static "TypedBlood" "ADDED_MARK" "[I") (.int 1)) (.int 1)) (by decide +kernel))
  have e2 := va_eqt (hs (.eq (.elem (.static "TypedBlood" "ADDED_MARK" "[I") (.int 2)) (.int 2)) (by decide +kernel))
  have e3 := va_eqt (hs (.eq (.elem (.static "TypedBlood" "ADDED_MARK" "[I") (.int 3)) (.int 4)) (by decide +kernel))
  obtain ⟨t, ht, hT⟩ := va_Tof (tm := (.static "TypedBlood" "ADDED_MARK" "[I")) (ty := .int) (N := 4) (f := fun j => .int (tab 1 j)) (A := fun q => s.heap.size ≤ q) (by decide) (hs (.arrayOf (.static "TypedBlood" "ADDED_MARK" "[I") .int) (by decide +kernel)) hlen (fun j hj => by
    have e : j = 0 ∨ j = 1 ∨ j = 2 ∨ j = 3 := by omega
    rcases e with rfl | rfl | rfl | rfl
    · exact e0
    · exact e1
    · exact e2
    · exact e3) hA
  exact ⟨t, hT, va_Zref (hts (.laysStatic "TypedBlood" "ADDED_MARK" "[I") (by decide +kernel)) (hts _ ww_32.1) ht hA⟩
theorem ws_t2 {s : State} {a : Array Value} (hts : ∀ w ∈ lw_tbl, w.before a s = true) (hs : ∀ w ∈ flatC (Jvm.Cond.and given_1 narrow_1), w.before a s = true) : ∃ t, va_T .int t 4 (fun j => .int (tab 2 j)) (fun q => s.heap.size ≤ q) s s.heap ∧ va_Z "TypedBlood" "PRODUCT_LIMIT" "[I" (.ref t) (fun q => s.heap.size ≤ q) s s.heap := by
  have hA : ∀ q : Nat, q < s.heap.size → ¬ s.heap.size ≤ q := fun q h => Nat.not_le.mpr h
  have hlen := va_eqt (hs (.eq (.length (.static "TypedBlood" "PRODUCT_LIMIT" "[I")) (.int 4)) (by decide +kernel))
  have e0 := va_eqt (hs (.eq (.elem (.static "TypedBlood" "PRODUCT_LIMIT" "[I") (.int 0)) (.int 7200)) (by decide +kernel))
  have e1 := va_eqt (hs (.eq (.elem (.static "TypedBlood" "PRODUCT_LIMIT" "[I") (.int 1)) (.int 1440)) (by decide +kernel))
  have e2 := va_eqt (hs (.eq (.elem (.static "TypedBlood" "PRODUCT_LIMIT" "[I") (.int 2)) (.int 20160)) (by decide +kernel))
  have e3 := va_eqt (hs (.eq (.elem (.static "TypedBlood" "PRODUCT_LIMIT" "[I") (.int 3)) (.int 1440)) (by decide +kernel))
  obtain ⟨t, ht, hT⟩ := va_Tof (tm := (.static "TypedBlood" "PRODUCT_LIMIT" "[I")) (ty := .int) (N := 4) (f := fun j => .int (tab 2 j)) (A := fun q => s.heap.size ≤ q) (by decide) (hs (.arrayOf (.static "TypedBlood" "PRODUCT_LIMIT" "[I") .int) (by decide +kernel)) hlen (fun j hj => by
    have e : j = 0 ∨ j = 1 ∨ j = 2 ∨ j = 3 := by omega
    rcases e with rfl | rfl | rfl | rfl
    · exact e0
    · exact e1
    · exact e2
    · exact e3) hA
  exact ⟨t, hT, va_Zref (hts (.laysStatic "TypedBlood" "PRODUCT_LIMIT" "[I") (by decide +kernel)) (hts _ ww_32.1) ht hA⟩
theorem ws_nc {s : State} {a : Array Value} (hs : ∀ w ∈ flatC (Jvm.Cond.and given_1 narrow_1), w.before a s = true) : ∀ x y, x < 5 → y < 5 → x ≠ y → va_Nc (xN x) (xN y) s := by
  intro x y hx hy hn
  rcases ev_five hx with rfl | rfl | rfl | rfl | rfl <;> rcases ev_five hy with rfl | rfl | rfl | rfl | rfl
  · exact absurd rfl hn
  · exact va_Nc.of (hs (.not (.castable (xN 0) (xN 1))) (by decide +kernel))
  · exact va_Nc.of (hs (.not (.castable (xN 0) (xN 2))) (by decide +kernel))
  · exact va_Nc.of (hs (.not (.castable (xN 0) (xN 3))) (by decide +kernel))
  · exact va_Nc.of (hs (.not (.castable (xN 0) (xN 4))) (by decide +kernel))
  · exact va_Nc.of (hs (.not (.castable (xN 1) (xN 0))) (by decide +kernel))
  · exact absurd rfl hn
  · exact va_Nc.of (hs (.not (.castable (xN 1) (xN 2))) (by decide +kernel))
  · exact va_Nc.of (hs (.not (.castable (xN 1) (xN 3))) (by decide +kernel))
  · exact va_Nc.of (hs (.not (.castable (xN 1) (xN 4))) (by decide +kernel))
  · exact va_Nc.of (hs (.not (.castable (xN 2) (xN 0))) (by decide +kernel))
  · exact va_Nc.of (hs (.not (.castable (xN 2) (xN 1))) (by decide +kernel))
  · exact absurd rfl hn
  · exact va_Nc.of (hs (.not (.castable (xN 2) (xN 3))) (by decide +kernel))
  · exact va_Nc.of (hs (.not (.castable (xN 2) (xN 4))) (by decide +kernel))
  · exact va_Nc.of (hs (.not (.castable (xN 3) (xN 0))) (by decide +kernel))
  · exact va_Nc.of (hs (.not (.castable (xN 3) (xN 1))) (by decide +kernel))
  · exact va_Nc.of (hs (.not (.castable (xN 3) (xN 2))) (by decide +kernel))
  · exact absurd rfl hn
  · exact va_Nc.of (hs (.not (.castable (xN 3) (xN 4))) (by decide +kernel))
  · exact va_Nc.of (hs (.not (.castable (xN 4) (xN 0))) (by decide +kernel))
  · exact va_Nc.of (hs (.not (.castable (xN 4) (xN 1))) (by decide +kernel))
  · exact va_Nc.of (hs (.not (.castable (xN 4) (xN 2))) (by decide +kernel))
  · exact va_Nc.of (hs (.not (.castable (xN 4) (xN 3))) (by decide +kernel))
  · exact absurd rfl hn
theorem whole_start {p : Program} {e : Env} {s : State} {m : MethodId} {below : List Frame} {meth : Method} {c : Code} (l : Launch) (hst : l.stackTraces = false) {b L : Nat} {xs : Nat → Int32} (hL : L ≤ 3072) (htab : c.exceptionTable.toList = tableOf []) (hnm : meth.name = "law") (C0 : lw_At p s m meth c b L xs) : W p l e room_1 s m #[Value.ref b] below meth c s.heap [] 0 0 (lw_Z below #[Value.ref b] s) (entryFrame m ([Value.ref b] : List Value).toArray 7) := by
  obtain ⟨hx, hcode, hret, hml, hown, hts, hX, hbl, hlk, hgv⟩ := C0
  have hs := flat_of_before _ hgv
  have hA : ∀ q : Nat, q < s.heap.size → ¬ s.heap.size ≤ q := fun q h => Nat.not_le.mpr h
  obtain ⟨D, cc, hK⟩ := ws_K hts
  obtain ⟨t1, hT1, hZ1⟩ := ws_t1 hts hs
  obtain ⟨t2, hT2, hZ2⟩ := ws_t2 hts hs
  have hU : vx_Zq Bundle.tN "UNASSIGNED_STACK" Bundle.steD (fun q => s.heap.size ≤ q) s s.heap := vx_Zqof (hts (.laysStatic Bundle.tN "UNASSIGNED_STACK" Bundle.steD) (by decide +kernel)) (hts (.initialized Bundle.tN) (by decide +kernel)) (hs (.isRef (.static Bundle.tN "UNASSIGNED_STACK" Bundle.steD)) (by decide +kernel)) hA
  have hN : vx_Zq Bundle.tN "SUPPRESSED_SENTINEL" Bundle.listD (fun q => s.heap.size ≤ q) s s.heap := vx_Zqof (hts (.laysStatic Bundle.tN "SUPPRESSED_SENTINEL" Bundle.listD) (by decide +kernel)) (hts (.initialized Bundle.tN) (by decide +kernel)) (hs (.isRef (.static Bundle.tN "SUPPRESSED_SENTINEL" Bundle.listD)) (by decide +kernel)) hA
  exact ws_run (ws_G hst hts hK hX hT1 hT2 hZ1 hZ2 hU hN (ws_nc hs)) hL hx hcode hret hml hown hlk htab hnm
