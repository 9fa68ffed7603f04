/-! rows that make cells -/
section EvN
variable {E : ev_E} {M : ev_M} {pc : Nat} {ls : List (Nat × ev_V)} {st : List ev_V} {h : ev_H} {P : Option ev_V ⊕ Nat → ev_H → Prop}
theorem adN_at {ad : Nat → Nat → Nat} {k i a : Nat} : adN ad k i a k i = a := by
  unfold adN; rw [if_pos ⟨rfl, rfl⟩]
theorem gI_nw {h : ev_H} {k j : Nat} : gI (nw h k) k (cnt h k) j = 0 := by
  show (if k = k ∧ cnt h k = cnt h k then (0 : Int32) else _) = 0
  rw [if_pos ⟨rfl, rfl⟩]
theorem gR_nw {h : ev_H} {k j : Nat} : gR (nw h k) k (cnt h k) j = vN := by
  show (if k = k ∧ cnt h k = cnt h k then vN else _) = vN
  rw [if_pos ⟨rfl, rfl⟩]
theorem gL_nw {h : ev_H} {k j : Nat} : gL (nw h k) k (cnt h k) j = 0 := by
  show (if k = k ∧ cnt h k = cnt h k then (0 : Int64) else _) = 0
  rw [if_pos ⟨rfl, rfl⟩]
theorem fty_dv {ci f : Nat} {ad : Nat → Nat → Nat} {h : ev_H} {k : Nat} : defaultValue (fty ci f) = cv ad (fv (nw h k) ci k (cnt h k) f) ∧ lvV (nw h k) (fv (nw h k) ci k (cnt h k) f) := by
  unfold fv
  rw [gI_nw, gR_nw]
  cases hi : isI ci f
  · refine ⟨?_, trivial⟩
    unfold fty
    rw [hi]
    cases Nat.beq ci 0 <;> cases Nat.beq f 0 <;> cases Nat.beq f 1 <;> rfl
  · refine ⟨?_, trivial⟩
    unfold fty
    rw [hi]
    rfl
theorem ev_live {h : ev_H} {k : Nat} (hk : k < 4) : lvV (nw h k) (vR k (cnt h k)) := by
  refine Or.inr (Or.inr ⟨hk, ?_⟩)
  rw [cnt_nw h k k hk hk, if_pos rfl]
  omega
theorem ev_made {p : Program} {e : Env} {R : Room} {s : State} {m : MethodId} {args : Array Value} {below : List Frame} {meth : Method} {c : Code} {H H1 : Heap} {locs : List Loc} {cells slots : Nat} {lsA : Array Slot} {ad ad0 : Nat → Nat → Nat} {h0 : ev_H} {k pc' N : Nat}
    (hC : ev_C E M p R s m meth c H locs cells slots ad ad0 h h0) (hL : ev_LR ad h (mL M) ls lsA) (hS : lvS h st) (hk : k < 4) (hN : N ≤ 512) (hR : Rl E (adN ad k (cnt h k) H.size) (nw h k) H1) (z1 : H1.size = H.size + 1) (kk : Ev E M pc' ls (vR k (cnt h k) :: st) (nw h k) P) :
    W p (eL E) e R s m args below meth c H1 locs (cells + 1) (slots + N) (ev_QE E s below ad0 h0 P) (F0 m pc' lsA (.ref H.size :: st.map (cv ad))) := by
  have hx : xt ad h (adN ad k (cnt h k) H.size) (nw h k) := xt_nw hk
  have hz := hC.2.2.2.1
  have hc1 := hC.2.2.2.2.1
  have hc2 := hC.2.2.2.2.2.1
  have k' := kk p e R s m args below meth c H1 locs _ _ lsA (adN ad k (cnt h k) H.size) ad0 h0 (hC.mk hR (by omega) hC.2.2.2.2.2.2.1 hx) (hL.mv hx) (lvS_c (ev_live hk) (hx.S hS).1)
  have e1 : cv (adN ad k (cnt h k) H.size) (vR k (cnt h k)) = .ref H.size := by
    show (if k = 4 then _ else Value.ref (adN ad k (cnt h k) H.size k (cnt h k))) = _
    rw [if_neg (by omega), adN_at]
  rw [List.map_cons, e1, (hx.S hS).2] at k'
  exact W.widen (by omega) (by omega) k'
theorem Ev_new {k i ci idx : Nat} (hd : decode (mB M) pc = .ok (.new idx, 3)) (hk : Nat.blt k 4 = true) (hi : cnt h k = i) (hs : shp k i = (0, ci)) (hw : nwd (mY M).cls idx ci) (hZ : cZ h < ZM) (kk : Ev E M (pc + 3) ls (vR k i :: st) (nw h k) P) : Ev E M pc ls st h P := by
  intro p e R s m args below meth c H locs cells slots lsA ad ad0 h0 hC hL hS
  subst hi
  have hk4 : k < 4 := by simpa [Nat.blt_eq] using hk
  have hN : nfl ci ≤ 512 := Nat.le_trans (nfl_le ci) (by decide)
  obtain ⟨rc, rs⟩ := ev_room hC hZ hN
  have hKn := ev_cls hC hw.1
  refine W.newcK hC.ex hC.cd hC.own (hC.w hw.2.1 args) (hC.w hw.2.2.1 args) (hC.w hw.2.2.2 args) rfl hd rc rs hKn.2.1 rfl fun H1 kC hkC e1 z1 o1 => ?_
  have hob := u_born (fty ci) (hC.hts args) (vT_in hw.1) hKn hkC e1 (vT_ty hw.1)
  have hR : Rl E (adN ad k (cnt h k) H.size) (nw h k) H1 := by
    refine hC.2.2.1.new1 hk4 hZ z1 o1 ⟨fun _ => ?_, fun z => ?_, fun z => ?_, fun z => ?_⟩
    · rw [hs, adN_at]
      exact ⟨hob.to fun f _ => fty_dv.1, fun f _ => (fty_dv (ad := ad)).2⟩
    · rw [hs] at z; cases z
    · rw [hs] at z; cases z
    · rw [hs] at z; exact absurd z (by simp)
  exact ev_made hC hL hS hk4 hN hR z1 kk
theorem Ev_newaI {k i n : Nat} {x : Int32} (hd : decode (mB M) pc = .ok (.newarray .int, 2)) (hk : Nat.blt k 4 = true) (hi : cnt h k = i) (hs : shp k i = (1, n)) (hx0 : ¬ x < 0) (hxn : x.toNatClampNeg = n) (hn : Nat.ble n 512 = true) (hw : wd (.arrayClass .int)) (hZ : cZ h < ZM) (kk : Ev E M (pc + 2) ls (vR k i :: st) (nw h k) P) : Ev E M pc ls (vI x :: st) h P := by
  intro p e R s m args below meth c H locs cells slots lsA ad ad0 h0 hC hL hS
  subst hi
  have hk4 : k < 4 := by simpa [Nat.blt_eq] using hk
  have hN : n ≤ 512 := by simpa using hn
  obtain ⟨rc, rs⟩ := ev_room hC hZ hN
  refine va_newaK hC.ex hC.cd (atype := .int) (hC.w hw args) rfl hd rfl hx0 hxn (by show n * 4 ≤ _; omega) rc rs rfl fun H1 cA e1 z1 o1 hA hf => ?_
  have hRA : s.vm.findClass ("[" ++ FieldType.int.toString) = some (eC E 0) := (hC.K.2 0 _ rfl).2
  have hcA : cA = eC E 0 := Option.some.inj (hf.symm.trans hRA)
  subst hcA
  have hR : Rl E (adN ad k (cnt h k) H.size) (nw h k) H1 := by
    refine hC.2.2.1.new1 hk4 hZ z1 o1 ⟨fun z => ?_, fun _ => ?_, fun z => ?_, fun z => ?_⟩
    · rw [hs] at z; cases z
    · rw [hs, adN_at, e1]
      refine congrArg some (arrV_congr fun j _ => ?_)
      rw [gI_nw]; rfl
    · rw [hs] at z; cases z
    · rw [hs] at z; exact absurd z (by simp)
  exact ev_made hC hL (lvS_2 hS) hk4 hN hR z1 kk
theorem Ev_newaL {k i n : Nat} {x : Int32} (hd : decode (mB M) pc = .ok (.newarray .long, 2)) (hk : Nat.blt k 4 = true) (hi : cnt h k = i) (hs : shp k i = (2, n)) (hx0 : ¬ x < 0) (hxn : x.toNatClampNeg = n) (hn : Nat.ble n 512 = true) (hw : wd (.arrayClass .long)) (hZ : cZ h < ZM) (kk : Ev E M (pc + 2) ls (vR k i :: st) (nw h k) P) : Ev E M pc ls (vI x :: st) h P := by
  intro p e R s m args below meth c H locs cells slots lsA ad ad0 h0 hC hL hS
  subst hi
  have hk4 : k < 4 := by simpa [Nat.blt_eq] using hk
  have hN : n ≤ 512 := by simpa using hn
  obtain ⟨rc, rs⟩ := ev_room hC hZ hN
  refine va_newaK hC.ex hC.cd (atype := .long) (hC.w hw args) rfl hd rfl hx0 hxn (by show n * 8 ≤ _; omega) rc rs rfl fun H1 cA e1 z1 o1 hA hf => ?_
  have hRA : s.vm.findClass ("[" ++ FieldType.long.toString) = some (eC E 1) := (hC.K.2 1 _ rfl).2
  have hcA : cA = eC E 1 := Option.some.inj (hf.symm.trans hRA)
  subst hcA
  have hR : Rl E (adN ad k (cnt h k) H.size) (nw h k) H1 := by
    refine hC.2.2.1.new1 hk4 hZ z1 o1 ⟨fun z => ?_, fun z => ?_, fun _ => ?_, fun z => ?_⟩
    · rw [hs] at z; cases z
    · rw [hs] at z; cases z
    · rw [hs, adN_at, e1]
      refine congrArg some (arrV_congr fun j _ => ?_)
      rw [gL_nw]; rfl
    · rw [hs] at z; exact absurd z (by simp)
  exact ev_made hC hL (lvS_2 hS) hk4 hN hR z1 kk
theorem Ev_anew {k i t n idx : Nat} {x : Int32} (hd : decode (mB M) pc = .ok (.anewarray idx, 3)) (hk : Nat.blt k 4 = true) (hi : cnt h k = i) (hs : shp k i = (t, n)) (ht : t = 3 ∨ t = 4) (hx0 : ¬ x < 0) (hxn : x.toNatClampNeg = n) (hn : Nat.ble n 512 = true) (hw : wd (.classLink (mY M).cls idx (aC t))) (hw2 : wd (.arrayOver (.object (aC t)))) (hZ : cZ h < ZM) (kk : Ev E M (pc + 3) ls (vR k i :: st) (nw h k) P) : Ev E M pc ls (vI x :: st) h P := by
  intro p e R s m args below meth c H locs cells slots lsA ad ad0 h0 hC hL hS
  subst hi
  have hk4 : k < 4 := by simpa [Nat.blt_eq] using hk
  have hN : n ≤ 512 := by simpa using hn
  obtain ⟨rc, rs⟩ := ev_room hC hZ hN
  have hRA : va_RA s (eC E (t - 1)) (.object (aC t)) := by
    rcases ht with rfl | rfl
    · exact (hC.K.2 2 _ rfl).2
    · exact (hC.K.2 3 _ rfl).2
  obtain ⟨kA, comp, k1, k2, k3, k5⟩ := hRA
  refine W.anew hC.ex hC.cd hC.own (hC.w hw args) (hC.w hw2 args) rfl hd rfl hx0 (by rw [hxn]; omega) rc (by rw [hxn]; exact rs) fun cA kA' comp' g1 g2 g3 g4 => ?_
  have hcA : cA = eC E (t - 1) := Option.some.inj (g1.symm.trans k5)
  subst hcA
  rw [hxn]
  have z1 : (H.push { cls := eC E (t - 1), slots := Array.replicate n .null, vm := .none }).size = H.size + 1 := by simp
  have o1 : ∀ q, q < H.size → (H.push { cls := eC E (t - 1), slots := Array.replicate n .null, vm := .none })[q]? = H[q]? := by
    intro q hq
    rw [Array.getElem?_push, if_neg (Nat.ne_of_lt hq)]
  have hR : Rl E (adN ad k (cnt h k) H.size) (nw h k) (H.push { cls := eC E (t - 1), slots := Array.replicate n .null, vm := .none }) := by
    refine hC.2.2.1.new1 hk4 hZ z1 o1 ⟨fun z => ?_, fun z => ?_, fun z => ?_, fun _ => ⟨?_, fun j _ => ?_⟩⟩
    · rw [hs] at z; rcases ht with rfl | rfl <;> cases z
    · rw [hs] at z; rcases ht with rfl | rfl <;> cases z
    · rw [hs] at z; rcases ht with rfl | rfl <;> cases z
    · rw [hs, adN_at, arrV_new]
      rw [Array.getElem?_push, if_pos rfl]
      refine congrArg some (arrV_congr fun j _ => ?_)
      rw [gR_nw]; rfl
    · rw [gR_nw]; trivial
  exact ev_made hC hL (lvS_2 hS) hk4 hN hR z1 kk
def wt : List ev_V → Nat
  | [] => 0
  | v :: t => cond (sg v) 1 2 + wt t
theorem cv_wt {ad : Nat → Nat → Nat} : ∀ st : List ev_V, ((st.map (cv ad)).map fun v => v.category).sum = wt st
  | [] => rfl
  | v :: t => by
    have e : (cv ad v).category = cond (sg v) 1 2 := by
      cases hq : sg v
      · rcases v with (_ | ⟨k, i⟩) | (x | x)
        · cases hq
        · cases hq
        · cases hq
        · rfl
      · rw [cv_sg hq]; rfl
    rw [List.map_cons, List.map_cons, List.sum_cons, e, cv_wt t]
    rfl
theorem Ev_objInit {a b idx : Nat} (hd : decode (mB M) pc = .ok (.invokespecial idx, 3)) (hw : wd (.methodLink (mY M).cls idx Lib.objectInit)) (hw2 : wd (.instanceMethod Lib.objectInit)) (hw3 : wd (.code Lib.objectInit ⟨#[0xb1]⟩ 1 none)) (hst : Nat.ble (wt st) 8 = true) (kk : Ev E M (pc + 3) ls st h P) : Ev E M pc ls (vR a b :: st) h P := by
  intro p e R s m args below meth c H locs cells slots lsA ad ad0 h0 hC hL hS
  obtain ⟨z, hz⟩ := cv_ref (ad := ad) a b
  rw [List.map_cons, hz]
  have i12 := hC.2.1.2.2.2.2.2.2.2.2.2.2.2.1
  have i13 := hC.2.1.2.2.2.2.2.2.2.2.2.2.2.2.1
  have hst8 : wt st ≤ 8 := by simpa using hst
  refine W.objInit hC.ex hC.cd hC.own (hC.w hw args) (hC.w hw2 args) (hC.w hw3 args) rfl (hL.sz.trans hC.ml.symm) rfl hd (by omega) ?_ (kk p e R s m args below meth c H locs cells slots lsA ad ad0 h0 hC hL (lvS_2 hS))
  rw [cv_wt]
  show 2 * 0 + wt st + 12 ≤ R.locals
  omega
end EvN
/-! calls -/
def eargs : Nat → List ev_V → List (Nat × ev_V)
  | _, [] => []
  | i, v :: t => (i, v) :: eargs (i + 1) t
theorem ev_entry {ad : Nat → Nat → Nat} {h : ev_H} : ∀ (as : List ev_V) (n : Nat), as.all sg = true → lvS h as → ∀ i v, lget (eargs n as) i = some v → (i, cv ad v) ∈ lv_args n (as.map (cv ad)) ∧ lvV h v ∧ (cv ad v).category = 1
  | [], n, _, _, i, v, q => by cases q
  | a :: t, n, hs, hl, i, v, q => by
    have hs1 : sg a = true := by
      have := List.all_cons (a := a) (l := t) (f := sg) ▸ hs
      simp only [Bool.and_eq_true] at this
      exact this.1
    have hs2 : t.all sg = true := by
      have := List.all_cons (a := a) (l := t) (f := sg) ▸ hs
      simp only [Bool.and_eq_true] at this
      exact this.2
    have e : lv_args n ((a :: t).map (cv ad)) = (n, cv ad a) :: lv_args (n + 1) (t.map (cv ad)) := by
      rw [List.map_cons]
      show (n, cv ad a) :: lv_args (if (cv ad a).category = 2 then n + 2 else n + 1) _ = _
      rw [cv_sg hs1, if_neg (by decide)]
    rw [e]
    by_cases hi : n = i
    · subst hi
      have : some a = some v := by simpa [eargs, lget] using q
      cases this
      exact ⟨List.mem_cons_self, lvS_1 hl, cv_sg hs1⟩
    · have e2 : Nat.beq n i = false := nbq hi
      have q' : lget (eargs (n + 1) t) i = some v := by simpa [eargs, lget, e2] using q
      obtain ⟨r1, r2, r3⟩ := ev_entry t (n + 1) hs2 (lvS_2 hl) i v q'
      exact ⟨List.mem_cons_of_mem _ r1, r2, r3⟩
theorem ev_sl {ad : Nat → Nat → Nat} : ∀ as : List ev_V, as.all sg = true → (lg_sl (as.map (cv ad))).length = as.length
  | [], _ => rfl
  | a :: t, hs => by
    have hs' : (sg a && t.all sg) = true := by rw [← List.all_cons]; exact hs
    simp only [Bool.and_eq_true] at hs'
    have ih := ev_sl (ad := ad) t hs'.2
    unfold lg_sl at ih ⊢
    rw [List.map_cons, List.flatMap_cons, cv_sg hs'.1, if_neg (by decide), List.length_append, ih]
    simp [Nat.add_comm]
def cwM (M : ev_M) : Cond := .codeWith (mY M) (mB M) (mL M) (mR M) (mH M)
/-- a method that may be called -/
def mcw (M : ev_M) : Prop := (wd (cwM M) ∨ (mH M = [] ∧ wd (.code (mY M) (mB M) (mL M) (mR M)))) ∧ wd (.initialized (mY M).cls) ∧ plainName (mY M).cls = true ∧ (mY M).cls ≠ "java/lang/invoke/MethodHandle" ∧ (mY M).cls ≠ "java/lang/invoke/VarHandle" ∧ mL M ≤ 11
theorem mcw.cw {E : ev_E} {M : ev_M} (hG : ev_G E) (q : mcw M) {U : State} (hW : (eS E).WarmedH U.vm) (a : Array Value) : (cwM M).before a U = true := by
  rcases q.1 with z | ⟨z1, z2⟩
  · exact gw_at z.2 hW (hG.2.1 _ z.1)
  · have := gw_at (A' := a) z2.2 hW (hG.2.1 _ z2.1)
    unfold cwM
    rw [z1]
    have h2 : (Cond.code (mY M) (mB M) (mL M) (mR M)).holds a U none U [] = true := this
    show (Cond.codeWith (mY M) (mB M) (mL M) (mR M) []).holds a U none U [] = true
    unfold Cond.holds at h2 ⊢
    rw [← Cond.code_iff_codeWith_nil]
    exact h2
def rmM (E : ev_E) (M : ev_M) (H : Heap) : Room := { frames := mD M + 2, locals := 30 * mD M + 124, cells := eZ E + ZM - H.size, slots := 512 * (eZ E + ZM - H.size) }
theorem ev_met {E : ev_E} {M : ev_M} {as : List ev_V} {h : ev_H} {P : Option ev_V ⊕ Nat → ev_H → Prop} {ad : Nat → Nat → Nat} {H : Heap} (hG : ev_G E) (hpl : plainName (mY M).cls = true) (hev : Ev E M 0 (eargs 0 as) [] h P) (hsg : as.all sg = true) (hlen : as.length ≤ mL M) (hR : Rl E ad h H) (hlv : lvS h as) :
    MetFree (eL E) (mY M) (headSpec [cwM M] (rmM E M H)) (fun a st => a = (as.map (cv ad)).toArray ∧ st.heap = H ∧ (eS E).WarmedH st.vm) (fun _ _ _ _ _ => True) (fun _ st o t => ev_Q E st ad h P o t) := by
  refine MetFree.of_bodyS (code := mB M) (maxLocals := mL M) (ret := mR M) hpl ?_ ?_
  · intro args s m hh hn
    obtain ⟨m9, meth, c, hn9, h1, h2, h3, h4, -, h5, h6, -⟩ := Cond.codeWith_spec (atoms_spec (ws := [cwM M]) hh _ List.mem_cons_self)
    cases hn.symm.trans hn9
    exact ⟨meth, c, h1, h2, h3, h4, h5, h6⟩
  · intro p e s m args below meth c s₁ B hml hP _
    obtain ⟨rfl, hH, hWm⟩ := hP
    have hh0 : s₁.heap = s.heap := by rw [B.state]; rfl
    have htab : c.exceptionTable.toList = tableOf (mH M) := vx_table (x := mY M) B (atoms_spec (ws := [cwM M]) B.pre _ List.mem_cons_self)
    have hown : s.vm.findClass (mY M).cls = some m.cls := findClass_of_methodNamed B.named
    have r1 := hR.1
    have r2 := hR.2.1
    have hI : ev_I E M p (rmM E M H) s m meth c := ⟨B.exec, B.bytes, B.returns, hml, hown, (name_of_methodNamed B.named B.method).1, B.notSynchronized, htab, hWm, fun q hq => by rw [hH]; exact hR.2.2.1 q hq, by rw [hH, r1]; omega, Nat.le_refl _, Nat.le_refl _, by
      show eZ E + ZM ≤ s.heap.size + (eZ E + ZM - H.size)
      rw [hH]; omega, by rw [hH]; exact Nat.le_refl _⟩
    have hC : ev_C E M p (rmM E M H) s m meth c s.heap [] 0 0 ad ad h h := ⟨hG, hI, by rw [hH]; exact hR, Nat.le_refl _, by omega, by omega, (fun q hq => nomatch hq), xt.rf⟩
    have hen := lv_entry (as.map (cv ad)) (n := mL M) (by rw [ev_sl as hsg]; exact hlen)
    have w := hev p e (rmM E M H) s m (as.map (cv ad)).toArray below meth c s.heap [] 0 0 _ ad ad h hC ⟨_, hen, ev_entry as 0 hsg hlv⟩ trivial
    have w' : W p (eL E) e (rmM E M H) s m (as.map (cv ad)).toArray below meth c s.heap [] 0 0 (ev_QE E s below ad h P) (entryFrame m (as.map (cv ad)).toArray (mL M)) := by
      rw [lg_entry_eq]; exact w
    obtain ⟨t, a1, o, b1, b2, b3⟩ := w' s₁ hh0 (Stand.of_body B)
    exact ⟨t, o, a1, b1, b2, b3⟩
/-- how a call of M' comes back into the frame g -/
def ev_B (E : ev_E) (M : ev_M) (p : Program) (e : Env) (R : Room) (s : State) (m : MethodId) (args : Array Value) (below : List Frame) (meth : Method) (c : Code) (ad ad0 : Nat → Nat → Nat) (h h0 : ev_H) (P' : Option ev_V ⊕ Nat → ev_H → Prop) (S0 : State) (g : JFrame) (len : Nat) : Prop :=
  ∃ (h' : ev_H) (ad' : Nat → Nat → Nat) (T' : State) (locs' : List Loc), ev_C E M p R s m meth c T'.heap locs' (T'.heap.size - s.heap.size) (512 * (T'.heap.size - s.heap.size)) ad' ad0 h' h0 ∧ xt ad h ad' h' ∧
    Stand p (eL E) e R s m args below meth c T' locs' (T'.heap.size - s.heap.size) (512 * (T'.heap.size - s.heap.size)) ∧
    ((∃ v : Option ev_V, P' (.inl v) h' ∧ (∀ w, v = some w → lvV h' w) ∧ Steps p.tables e below S0 (T'.setTop { g with pc := g.pc + len, stack := (v.map (cv ad')).toList ++ g.stack })) ∨
     (∃ (x : Nat) (q : Addr) (ce : Cell), P' (.inr x) h' ∧ x < 5 ∧ T'.heap[q]? = some ce ∧ ce.vm = .none ∧ s.vm.findClass (xN x) = some ce.cls ∧ Steps p.tables e below S0 ((T'.setTop g).pushFrame (.throwing q))))
theorem ev_call {E : ev_E} {M M' : ev_M} {p : Program} {e : Env} {R : Room} {s : State} {m : MethodId} {args : Array Value} {below : List Frame} {meth : Method} {c : Code} {H : Heap} {locs : List Loc} {cells slots : Nat} {ad ad0 : Nat → Nat → Nat} {h h0 : ev_H} {P' : Option ev_V ⊕ Nat → ev_H → Prop} {as : List ev_V}
    (hC : ev_C E M p R s m meth c H locs cells slots ad ad0 h h0) (hdp : mD M' < mD M) (mw : mcw M') (hsg : as.all sg = true) (hlen : as.length ≤ mL M') (hlv : lvS h as) (hev : Ev E M' 0 (eargs 0 as) [] h P')
    {T : State} (hT : T.heap = H) (X : Stand p (eL E) e R s m args below meth c T locs cells slots) {g : JFrame} (hg : g.method = m) (hsize : g.locals.size = c.maxLocals) {ig : Instr} {len : Nat} (hdg : decode c.code g.pc = .ok (ig, len)) (hW : 2 * g.monitorRoom + (g.stack.map fun v => v.category).sum ≤ 8) {mk : MethodId} (hn : T.methodNamed? (mY M') = some mk) :
    ev_B E M p e R s m args below meth c ad ad0 h h0 P' (doInvoke e (T.setTop g) [] mk (as.map (cv ad)).toArray).1 g len := by
  have hWs : (eS E).WarmedH T.vm := State.WarmedH.trans hC.wm X.warmed
  have hG := hC.1
  have hR := hC.2.2.1
  have hM := ev_met (M := M') hG mw.2.2.1 hev hsg hlen hR hlv
  have h2 : (cwM M').before (as.map (cv ad)).toArray T = true := mw.cw hG hWs _
  have h1 : (headSpec [cwM M'] (rmM E M' H)).pre.before (as.map (cv ad)).toArray T = true := atoms_intro fun w hw => by
    rw [List.mem_singleton.mp hw]; exact h2
  have h3 : (Cond.initialized (mY M').cls).before (as.map (cv ad)).toArray T = true := gw_at mw.2.1.2 hWs (hG.2.1 _ mw.2.1.1)
  have r1 := hR.1
  have r2 := hR.2.1
  have z1 := hC.2.2.2.1
  have z2 := hC.2.2.2.2.1
  have z3 := hC.2.2.2.2.2.1
  have i11 := hC.2.1.2.2.2.2.2.2.2.2.2.2.1
  have i12 := hC.2.1.2.2.2.2.2.2.2.2.2.2.2.1
  have i13 := hC.2.1.2.2.2.2.2.2.2.2.2.2.2.2.1
  have i14 := hC.2.1.2.2.2.2.2.2.2.2.2.2.2.2.2.1
  have i15 := hC.2.1.2.2.2.2.2.2.2.2.2.2.2.2.2.2
  have mL11 := mw.2.2.2.2.2
  have hPc : (as.map (cv ad)).toArray = (as.map (cv ad)).toArray ∧ (T.calling g mk (as.map (cv ad)).toArray).heap = H ∧ (eS E).WarmedH (T.calling g mk (as.map (cv ad)).toArray).vm := ⟨rfl, hT, hWs⟩
  generalize haa : (as.map (cv ad)).toArray = a at hM h1 h2 h3 hPc ⊢
  obtain ⟨m9, methY, cY, hn9, hmY, hcY, -, hlY, -⟩ := Cond.codeWith_spec h2
  cases Option.some.inj (hn9.symm.trans hn)
  obtain ⟨kY, hkY, -⟩ := className_of_methodNamed hn
  have hinitY : kY.init = .initialized := Cond.initialized_spec (findClass_of_methodNamed hn) hkY h3
  have hA : At T g.method c below := by rw [hg]; exact X.here
  have happ : (headSpec [cwM M'] (rmM E M' H)).appliesLoose (mY M') e.platform (T.calling g mk a) = true :=
    Spec.appliesLoose_calling (g := g) hA hdg hn hkY hinitY
      (X.room_calling (g := g) (R' := rmM E M' H) hsize hmY hcY (by show mD M' + 2 + 1 ≤ R.frames; omega) (by rw [hlY]; show _ + (mL M' + 11) + (30 * mD M' + 124) ≤ R.locals; omega) (by show cells + (eZ E + ZM - H.size) ≤ R.cells; omega) (by show slots + 512 * (eZ E + ZM - H.size) ≤ R.slots; omega)) h1
  obtain ⟨mid, hmid⟩ := hA.above
  have hfr : (T.setTop g).frames = (.java g :: mid) ++ below := by rw [State.frames_setTop' g hA.top, hmid]; rfl
  obtain ⟨o, s₂, hsteps, -, hend, hq⟩ := Steps.callFree hM p X.admits X.cas X.clock (acts := []) hfr happ (by rw [← haa] at hPc ⊢; exact hPc) trivial
  have hq' : ev_Q E (T.calling g mk a) ad h P' o s₂ := hq
  rw [State.frames_setTop' g hA.top] at hend
  obtain ⟨g₀, hg0⟩ := Option.isSome_iff_exists.mp hA.top
  obtain ⟨rr, hr⟩ := State.topJava?_eq_some.mp hg0
  have hr' : (({ T with heap := s₂.heap, slotsUsed := s₂.slotsUsed } : State).setVm s₂.vm).frames = .java g₀ :: rr := hr
  obtain ⟨r, h', ad', hW₂, ⟨L, hsm, hL⟩, hR', hx', hO, hP'⟩ := hq'
  obtain ⟨e2, q2, q3, q4, q5, q6⟩ := id hsm
  have e3 : s₂ = ({ (T.calling g mk a).setFrames s₂.frames with heap := s₂.heap, slotsUsed := s₂.slotsUsed } : State).setVm s₂.vm := by
    have : s₂ = ({ s₂ with vm := (T.calling g mk a).vm } : State).setVm s₂.vm := rfl
    rw [e2] at this
    exact this
  have hW' : T.WarmedH s₂.vm := hW₂
  have hTH : T.heap.size = H.size := by rw [hT]
  have q2' : H.size ≤ s₂.heap.size := by rw [← hTH]; exact q2
  have hsame : T.sameButNew ({ T with heap := s₂.heap, slotsUsed := s₂.slotsUsed } : State) L (s₂.heap.size - T.heap.size) (512 * (s₂.heap.size - T.heap.size)) := by
    refine ⟨?_, q2, ?_, q4, q5, q6⟩
    · obtain ⟨t, ht, -⟩ := State.frames_cons hr
      show ({ T with heap := s₂.heap, slotsUsed := s₂.slotsUsed } : State) = { T.setFrames T.frames with heap := s₂.heap, slotsUsed := s₂.slotsUsed }
      rw [State.setFrames_self ht]
    · show s₂.heap.size ≤ T.heap.size + (s₂.heap.size - T.heap.size)
      have : T.heap.size ≤ s₂.heap.size := q2
      omega
  rw [hTH] at hsame
  subst hg
  have X' : Stand p (eL E) e R s g.method args below meth c (({ T with heap := s₂.heap, slotsUsed := s₂.slotsUsed } : State).setVm s₂.vm) (locs ++ L) (cells + (s₂.heap.size - H.size)) (slots + 512 * (s₂.heap.size - H.size)) :=
    ⟨X.admits, X.cas, X.clock, X.frames, X.room, X.hears, X.method, X.code, (X.here.setHeapUsed s₂.heap s₂.slotsUsed).setVm hW'.alike, X.tail, State.WarmedH.trans X.warmed hW', X.limits, X.bytes, X.same.trans (hsame.setVm s.vm)⟩
  have X2 := stand_widen X' (k := s₂.heap.size - s.heap.size) (n := 512 * (s₂.heap.size - s.heap.size)) (by omega) (by omega)
  have hlocs : ∀ q ∈ locs ++ L, eZ E ≤ q.base := fun q hq => by
    rcases List.mem_append.mp hq with z | z
    · exact hC.2.2.2.2.2.2.1 q z
    · exact hL q z
  have hC2 : ev_C E M p R s g.method meth c s₂.heap (locs ++ L) (s₂.heap.size - s.heap.size) (512 * (s₂.heap.size - s.heap.size)) ad' ad0 h' h0 := hC.mk hR' (by omega) hlocs hx'
  refine ⟨h', ad', ({ T with heap := s₂.heap, slotsUsed := s₂.slotsUsed } : State).setVm s₂.vm, locs ++ L, hC2, hx', X2, ?_⟩
  rcases r with v | x
  · left
    have hov : o = .returned (v.map (cv ad')) ∧ ∀ w, v = some w → lvV h' w := by
      cases v with
      | none => exact ⟨hO, fun w z => nomatch z⟩
      | some w =>
        obtain ⟨o1, o2⟩ := hO
        exact ⟨o1, fun w' z => by cases z; exact o2⟩
    obtain ⟨rfl, hov2⟩ := hov
    refine ⟨v, hP', hov2, ?_⟩
    obtain ⟨c₂, i₂, len₂, hc₂, hd₂, hf₂⟩ := hend
    have hcc : c₂ = c := by
      have h1 : s₂.code? g.method = T.code? g.method := by
        rw [State.code?_eq, State.code?_eq, hW'.alike.method?]
      exact Option.some.inj (hc₂.symm.trans (h1.trans hA.code))
    subst hcc
    have hlen2 : len₂ = len := by rw [hdg] at hd₂; cases hd₂; rfl
    subst hlen2
    have hs₂ : s₂ = (({ T with heap := s₂.heap, slotsUsed := s₂.slotsUsed } : State).setVm s₂.vm).setTop { g with pc := g.pc + len₂, stack := (v.map (cv ad')).toList ++ g.stack } := by
      refine e3.trans ?_
      rw [hf₂, State.calling_eq hA.top, State.setFrames_setFrames, State.setTop_of_frames _ hr', hr]
      rfl
    rw [← hs₂]
    exact hsteps
  · right
    obtain ⟨hx5, q, ce, rfl, hce, hcv, hcl⟩ := hO
    have hcl' : s.vm.findClass (xN x) = some ce.cls := by
      have h9 : T.vm.findClass (xN x) = some ce.cls := hcl
      rw [X.warmed.alike.findClass] at h9
      exact h9
    refine ⟨x, q, ce, hP', hx5, hce, hcv, hcl', ?_⟩
    have hf₂ : s₂.frames = .throwing q :: .java g :: T.frames.tail := hend
    have hs₂ : s₂ = ((({ T with heap := s₂.heap, slotsUsed := s₂.slotsUsed } : State).setVm s₂.vm).setTop g).pushFrame (.throwing q) := by
      refine e3.trans ?_
      rw [hf₂, State.calling_eq hA.top, State.setFrames_setFrames, State.pushFrame, State.frames_setTop _ hr', State.setTop_of_frames _ hr', State.setFrames_setFrames, hr]
      rfl
    rw [← hs₂]
    exact hsteps
