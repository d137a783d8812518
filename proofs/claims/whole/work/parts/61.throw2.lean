/-! THROW 2: what a throw needs beside the good words: the two statics of Throwable, the String constants; contracts that end by a throw -/
def kS (H H1 : Heap) : Prop := ∀ (a : Nat) (cell : Cell), H[a]? = some cell → cell.vm.isStatics = true → H1[a]? = some cell
theorem kS.rf (H : Heap) : kS H H := fun _ _ h _ => h
theorem kS_of {D : va_G} {cl : List vw_C} {ws : va_W} {H0 H : Heap} {locs : List Loc} (hP : va_P D cl ws H0) (hS : va_S (va_A ws H0.size) H0 H locs) : kS H0 H := by
  intro a cell ha hs
  have hlt : a < H0.size := (Array.getElem?_eq_some_iff.mp ha).1
  have hno : ¬ va_A ws H0.size a := by
    rintro (⟨k, e, hk⟩ | h)
    · have h1 := hP k (a, e) hk
      cases e with
      | inl x =>
        have h2 : H0[a]? = some (vp_cell x.1 x.2) := h1
        have h3 : (vp_cell x.1 x.2).vm.isStatics = false := by
          unfold vp_cell
          split <;> rfl
        rw [Option.some.inj (ha.symm.trans h2), h3] at hs
        cases hs
      | inr x =>
        obtain ⟨r, -, c2, q, -, hv, -⟩ := h1
        rw [Option.some.inj (ha.symm.trans q), hv] at hs
        cases hs
    · omega
  rw [hS.2.1 a hlt hno]
  exact ha
def stX (O f d : String) (U : State) : Prop := ∃ (c : ClassId) (k : Class) (i : Nat) (fd : Field) (a : Nat) (cell : Cell) (v : Value), U.vm.findClass O = some c ∧ U.fieldFound? O f d = some (c, k, i, fd) ∧ fd.isStatic = true ∧ k.statics = some a ∧ U.heap[a]? = some cell ∧ cell.vm.isStatics = true ∧ cell.cls = c ∧ fd.slot < cell.slots.size ∧ k.staticTypes[fd.slot]? = some fd.type ∧ cell.slots[fd.slot]? = some v ∧ v.isRef = true
theorem stX.of {O f d : String} {args : Array Value} {U : State} (h1 : (Cond.laysStatic O f d).before args U = true) (h2 : (Cond.isRef (.static O f d)).before args U = true) : stX O f d U := by
  obtain ⟨c, k, i, fd, a, cell, hc, hi, hst, ha, hcell, hs, hcls, hlt, hty⟩ := Cond.laysStatic_spec h1
  obtain ⟨u, hu⟩ := Cond.staticRefV hi hst ha hcell hs h2
  exact ⟨c, k, i, fd, a, cell, u.v, hc, hi, hst, ha, hcell, hs, hcls, hlt, hty, hu, u.2⟩
theorem stX.at {O f d : String} {s U : State} (hW : s.WarmedH U.vm) (hk : kS s.heap U.heap) (h : stX O f d s) : stX O f d U := by
  obtain ⟨c, k, i, fd, a, cell, v, hc, hi, hst, ha, hcell, hs, hcls, hlt, hty, hv, hr⟩ := h
  obtain ⟨k', hi', hek⟩ := State.fieldFound?_setVm hW.alike hi
  exact ⟨c, k', i, fd, a, cell, v, by rw [hW.alike.findClass]; exact hc, hi', hst, by rw [hek]; exact ha, hk a cell hcell hs, hs, hcls, hlt, by rw [hek]; exact hty, hv, hr⟩
theorem stX.lays {O f d : String} {U : State} (h : stX O f d U) (args : Array Value) : (Cond.laysStatic O f d).before args U = true := by
  obtain ⟨c, k, i, fd, a, cell, v, hc, hi, hst, ha, hcell, hs, hcls, hlt, hty, hv, hr⟩ := h
  exact Cond.laysStatic_of (s := U) hc hi hst ha hcell hs hcls hlt hty
theorem stX.isr {O f d : String} {U : State} (h : stX O f d U) (args : Array Value) : (Cond.isRef (.static O f d)).before args U = true := by
  obtain ⟨c, k, i, fd, a, cell, v, hc, hi, hst, ha, hcell, hs, hcls, hlt, hty, hv, hr⟩ := h
  have he : (Term.static O f d).eval args U none [] U = some v := by
    simp [Term.eval, State.fieldNamed?, hi, hst, ha, hcell, hs, hv]
  simp only [Cond.before, Cond.holds, Cond.value, he]
  cases v <;> first | rfl | (simp [Value.isRef] at hr)
def sQ : List (Nat × String) := [(45, "which is 0 or 1"), (62, "no such power"), (73, "which is 0, 1 or 2"), (92, "the kind is not 3"), (95, "root is 0 or 1"), (109, "no such answer"), (122, "no such answer or power")]
abbrev xU : String := "UNASSIGNED_STACK"
abbrev xV : String := "SUPPRESSED_SENTINEL"
abbrev xIA : String := "java/lang/IllegalArgumentException"
abbrev xIO : String := "java/lang/IndexOutOfBoundsException"
abbrev xIS : String := "java/lang/IllegalStateException"
def xD : List MethodName := [Bundle.initS "java/lang/RuntimeException", Bundle.initS "java/lang/Exception", Bundle.initS "java/lang/Throwable"]
def xE : List String := [xIA, xIO, xIS]
def xL : List Cond := [.laysStatic Bundle.tN xU Bundle.steD, .laysStatic Bundle.tN xV Bundle.listD, .isRef (.static Bundle.tN xU Bundle.steD), .isRef (.static Bundle.tN xV Bundle.listD), .declares (Bundle.initS "java/lang/RuntimeException"), .declares (Bundle.initS "java/lang/Exception"), .declares (Bundle.initS "java/lang/Throwable"), .castable xIA xIA, .castable xIO xIO, .castable xIS xIS]
def xS (U : State) : Prop := (∀ q ∈ sQ, ∃ a : Nat, vk_R "OrderTwoCases" q.1 q.2 a U) ∧ stX Bundle.tN xU Bundle.steD U ∧ stX Bundle.tN xV Bundle.listD U ∧ (∀ x ∈ xD, va_Nw (.declares x) U) ∧ (∀ X ∈ xE, va_Nw (.castable X X) U) ∧ va_Nc xIO xIA U ∧ va_Nc xIA xIS U
theorem xNc {C T : String} {s U : State} (hW : s.WarmedH U.vm) (h : va_Nc C T s) : va_Nc C T U := by
  obtain ⟨c, t, h1, h2, h3⟩ := h
  exact ⟨c, t, by rw [hW.alike.findClass]; exact h1, by rw [hW.alike.findClass]; exact h2, by rw [hW.alike.assignable]; exact h3⟩
theorem xS.at {s U : State} (hW : s.WarmedH U.vm) (hk : kS s.heap U.heap) (h : xS s) : xS U := ⟨fun q hq => (h.1 q hq).elim fun a ha => ⟨a, vk_R.warm hW ha⟩, h.2.1.at hW hk, h.2.2.1.at hW hk, fun x hx => va_Nw.warmD hW (h.2.2.2.1 x hx), fun X hX => va_Nw.warmC hW (h.2.2.2.2.1 X hX), xNc hW h.2.2.2.2.2.1, xNc hW h.2.2.2.2.2.2⟩
theorem xS.xl {U : State} (h : xS U) (args : Array Value) : ∀ w ∈ xL, w.before args U = true := by
  intro w hw
  simp only [xL, List.mem_cons, List.not_mem_nil, or_false] at hw
  rcases hw with rfl | rfl | rfl | rfl | rfl | rfl | rfl | rfl | rfl | rfl
  · exact h.2.1.lays args
  · exact h.2.2.1.lays args
  · exact h.2.1.isr args
  · exact h.2.2.1.isr args
  · exact va_Nw.use rfl (h.2.2.2.1 _ (by simp [xD]))
  · exact va_Nw.use rfl (h.2.2.2.1 _ (by simp [xD]))
  · exact va_Nw.use rfl (h.2.2.2.1 _ (by simp [xD]))
  · exact va_Nw.use rfl (h.2.2.2.2.1 _ (by simp [xE]))
  · exact va_Nw.use rfl (h.2.2.2.2.1 _ (by simp [xE]))
  · exact va_Nw.use rfl (h.2.2.2.2.1 _ (by simp [xE]))
/-- a contract that ends by a throw -/
def MetT (l : Launch) (y : MethodName) (ws : List Cond) (rm : Room) (Pc : Array Value → State → Prop) (Qc : Array Value → State → Outcome → State → Prop) (mc ms : Nat) (free : Addr → Prop) : Prop :=
  MetFree l y (headSpec ws rm) Pc (fun _ _ _ _ _ => True) (fun a st o t => Qc a st o t ∧ (∃ x, o = .threw x) ∧ st.WarmedH t.vm ∧ ∃ L, st.sameButNew ({ t with vm := st.vm } : State) L mc ms ∧ ∀ q ∈ L, free q.base)
def MQT (below : List Frame) (Qc : Array Value → State → Outcome → State → Prop) (a : Array Value) (s : State) (mc ms : Nat) (free : Addr → Prop) : State → Prop := fun t =>
  ∃ o, t.status = .running ∧ Ended t below o ∧ Qc a s o t ∧ (∃ x, o = .threw x) ∧ s.WarmedH t.vm ∧ ∃ L, s.sameButNew ({ t with vm := s.vm } : State) L mc ms ∧ ∀ q ∈ L, free q.base
theorem MetT.ofW {l : Launch} {y : MethodName} {ws ws' : List Cond} {rm : Room} {Pc : Array Value → State → Prop} {Qc : Array Value → State → Outcome → State → Prop} {mc ms : Nat} {free : Addr → Prop} {cc : ByteArray} {maxL : Nat} {ret : Option FieldType}
    (hy : plainName y.cls = true) (hw : ws = Cond.code y cc maxL ret :: ws')
    (body : ∀ p e s m args below meth c s₁, BodyLoose p l y (headSpec ws rm) cc maxL ret e s m args below meth c s₁ → c.maxLocals = maxL → Pc args s →
      W p l e (headSpec ws rm).room s m args below meth c s.heap [] 0 0 (MQT below Qc args s mc ms free) (entryFrame m args maxL)) : MetT l y ws rm Pc Qc mc ms free := by
  refine MetFree.of_bodyS (code := cc) (maxLocals := maxL) (ret := ret) hy ?_ ?_
  · intro args s m h hn
    obtain ⟨meth, c, h1, h2, h3, h4, h5, h6, -, -⟩ := Cond.code_spec hn (atoms_spec (ws := ws) h _ (by rw [hw]; exact List.mem_cons_self))
    exact ⟨meth, c, h1, h2, h3, h4, h5, h6⟩
  · intro p e s m args below meth c s₁ B hml hP _
    have hh0 : s₁.heap = s.heap := by rw [B.state]; rfl
    obtain ⟨t, a1, o, b1, b2, b3⟩ := body p e s m args below meth c s₁ B hml hP s₁ hh0 (Stand.of_body B)
    exact ⟨t, o, a1, b1, b2, b3⟩
/-- the end: an object of the class E, new, is thrown; the world behind it -/
def x_Q {S : Type} (E : String) (post : S → Prop) (B : S → State → Prop) (A : Nat → Prop) : Array Value → State → Outcome → State → Prop := fun _ st o t => ∃ (x : Nat) (u : S) (ce : Cell), o = .threw x ∧ post u ∧ B u t ∧ va_F A st t ∧ t.heap[x]? = some ce ∧ st.vm.findClass E = some ce.cls ∧ ce.vm = .none
section XTHR
variable {p : Program} {l : Launch} {e : Env} {R : Room} {s : State} {m : MethodId} {args : Array Value} {below : List Frame} {meth : Method} {c : Code} {H : Heap} {locs : List Loc} {cells slots : Nat}
variable {cc : ByteArray} {pc : Nat} {ls : Array Slot} {rest : List Value}
/-- 'throw new E("text")', of which nothing in the method catches -/
theorem x_thrw {E own tx : String} {names : List String} {jn jl ji nL : Nat} {Q : State → Prop} (hexec : p.tables.exec = Jvm.exec) (hb : c.code = cc) (hml : c.maxLocals = nL) (hsz : ls.size = nL) (hfl : l.flags = Jvm.pinnedFlags ++ [Jvm.noTraceFlag]) (hlocks : meth.locks = false) (hown : s.vm.findClass own = some m.cls)
    (hts : ∀ w ∈ tT, w.before args s = true) (hE : Bundle.fit E = true) (hnm : ∀ n ∈ names, Bundle.fit n = true) (hat : ∀ w ∈ Bundle.ownAtoms own ji E names, w ∈ tT ∨ w ∈ xL)
    (hcl : Cond.classLink own jn E ∈ tT) (hin : Cond.instantiable E 6 ∈ tT) (hini : Cond.initialized E ∈ tT) (hx : ∀ s' : State, s.WarmedH s'.vm → s'.heap = H → xS s') (htx : ∀ s' : State, xS s' → ∃ a : Nat, vk_R own jl tx a s')
    (hno : c.exceptionTable.isEmpty = true) (hcells : cells + 1 ≤ R.cells) (hslots : slots + 6 ≤ R.slots) (hfr : names.length + 3 < R.frames) (hlo : 1 + (rest.map fun v => v.category).sum + (13 * (names.length + 1) + 42) ≤ R.locals)
    (hd0 : decode cc pc = .ok (.new jn, 3)) (hd1 : decode cc (pc + 3) = .ok (.dup, 1)) (hd2 : decode cc (pc + 4) = .ok (.ldc jl, 2)) (hd3 : decode cc (pc + 6) = .ok (.invokespecial ji, 3)) (hd4 : decode cc (pc + 9) = .ok (.athrow, 1))
    (hq : ∀ (t : State) (ce : Cell), t.status = .running → Ended t below (.threw H.size) → s.WarmedH t.vm → (∃ L, L = locs ∧ s.sameButNew ({ t with vm := s.vm } : State) L (cells + 1) (slots + 6)) → (∀ q : Nat, q < H.size → t.heap[q]? = H[q]?) → H.size ≤ t.heap.size → t.heap[H.size]? = some ce → s.vm.findClass E = some ce.cls → ce.vm = .none → Q t) :
    W p l e R s m args below meth c H locs cells slots Q (F0 m pc ls rest) := by
  intro T hT X
  obtain ⟨s', e1, e2, X0, back⟩ := x_base X (by omega) (by omega)
  have hW0 : s.WarmedH s'.vm := by rw [e2]; exact X.warmed
  have hH : s'.heap = H := e1.trans hT
  have hown' : s'.vm.findClass own = some m.cls := by rw [hW0.alike.findClass]; exact hown
  have hw' : ∀ w ∈ tT, w.before args s' = true := fun w hw => word_at hW0 (good_of_word (List.mem_filter.mp hw).2) (hts w hw)
  have hxs := hx s' hW0 hH
  obtain ⟨a, ha⟩ := htx s' hxs
  have htr : e.platform.stackTraces = false := Launch.traces_off hfl X.admits
  have key : W p l e { R with cells := R.cells - cells, slots := R.slots - slots } s' m args below meth c H [] 0 0 Q (F0 m pc ls rest) := by
    refine W.newc hexec hb hown' (hw' _ hcl) (hw' _ hin) (hw' _ hini) (g := F0 m pc ls rest) rfl hd0 (by show 0 + 1 ≤ R.cells - cells; omega) (by show 0 + 6 ≤ R.slots - slots; omega) (fun cC kC hC hk hord hkz => ?_)
    refine W.eq (g2 := F0 m (pc + 3) ls (.ref H.size :: rest)) rfl ?_
    refine lv_dup hexec hb hd1 rfl ?_
    refine va_ldcS hexec hb hown' ha hd2 ?_
    intro T2 hT2 X2
    obtain ⟨U, st, hrun, hend, hWU, hsame, ce, hce, hcell⟩ := X2.ctorThrowS hexec htr (names := names) hown' hE hnm (fun w hw => (hat w hw).elim (fun h => hw' w h) (fun h => hxs.xl args w h)) (fun _ h => absurd h List.not_mem_nil) hC hk (a := H.size) (by rw [hT2]; simp) (by rw [hH]; exact Nat.le_refl _) (msg := .ref a) rfl (g := F0 m (pc + 6) ls (.ref a :: .ref H.size :: .ref H.size :: rest)) rfl (hsz.trans hml.symm) rfl rfl rfl (by rw [hb]; exact hd3) (by rw [hb]; exact hd4)
      (fun y hy => by
        have h0 : c.exceptionTable.size = 0 := by simpa [Array.isEmpty] using hno
        have h1 : c.exceptionTable.toList = [] := List.eq_nil_of_length_eq_zero (by simpa using h0)
        rw [h1] at hy
        cases hy) hfr (by
        show 2 * 0 + ((Value.ref H.size :: rest).map fun v => v.category).sum + (13 * (names.length + 1) + 42) ≤ R.locals
        simp only [List.map_cons, List.sum_cons]
        show 2 * 0 + (1 + _) + _ ≤ _
        omega) hlocks
    obtain ⟨hW1, hs1⟩ := back U [] _ _ hWU hsame
    refine ⟨U, st, hq U ce hrun hend hW1 ⟨locs, rfl, ?_⟩ (fun q hlt => ?_) ?_ hce ?_ hcell.vm⟩
    · rw [List.append_nil] at hs1
      exact hs1.mono (by omega) (by omega)
    · have hl : q < s'.heap.size := by rw [hH]; exact hlt
      have h1 : s'.heap[q]? = some s'.heap[q] := Array.getElem?_eq_getElem hl
      have h2 : U.heap[q]? = some s'.heap[q] := hsame.old_cell h1
      rw [h2, ← h1, hH]
    · have h1 : s'.heap.size ≤ U.heap.size := hsame.2.1
      rw [hH] at h1
      exact h1
    · have h1 := hcell.cls
      rw [hW0.alike.findClass] at h1
      exact h1
  exact key T hT X0
/-- the same, at the end of a contract -/
theorem x_thr {S : Type} {E own tx : String} {names : List String} {jn jl ji nL : Nat} {post : S → Prop} {wn : S → va_W} {D : va_G} {cl : List vw_C} {A : Nat → Prop} {mc ms : Nat} (hexec : p.tables.exec = Jvm.exec) (hb : c.code = cc) (hml : c.maxLocals = nL) (hsz : ls.size = nL) (hfl : l.flags = Jvm.pinnedFlags ++ [Jvm.noTraceFlag]) (hlocks : meth.locks = false) (hown : s.vm.findClass own = some m.cls)
    (hts : ∀ w ∈ tT, w.before args s = true) (hE : Bundle.fit E = true) (hnm : ∀ n ∈ names, Bundle.fit n = true) (hat : ∀ w ∈ Bundle.ownAtoms own ji E names, w ∈ tT ∨ w ∈ xL)
    (hcl : Cond.classLink own jn E ∈ tT) (hin : Cond.instantiable E 6 ∈ tT) (hini : Cond.initialized E ∈ tT) (hx : xS s) (hk : kS s.heap H) (htx : ∀ s' : State, xS s' → ∃ a : Nat, vk_R own jl tx a s')
    (hno : c.exceptionTable.isEmpty = true) (hcells : cells + 1 ≤ R.cells) (hslots : slots + 6 ≤ R.slots) (hfr : names.length + 3 < R.frames) (hlo : 1 + (rest.map fun v => v.category).sum + (13 * (names.length + 1) + 42) ≤ R.locals)
    (hd0 : decode cc pc = .ok (.new jn, 3)) (hd1 : decode cc (pc + 3) = .ok (.dup, 1)) (hd2 : decode cc (pc + 4) = .ok (.ldc jl, 2)) (hd3 : decode cc (pc + 6) = .ok (.invokespecial ji, 3)) (hd4 : decode cc (pc + 9) = .ok (.athrow, 1))
    (u : S) (hpost : post u) (hP : va_P D cl (wn u) H) (hD : va_D A (wn u)) (hS : va_S A s.heap H locs) (hmc : cells + 1 = mc) (hms : slots + 6 = ms) :
    W p l e R s m args below meth c H locs cells slots (MQT below (x_Q E post (fun u t => wB D cl A (wn u) t) A) args s mc ms A) (F0 m pc ls rest) := by
  refine x_thrw (tx := tx) hexec hb hml hsz hfl hlocks hown hts hE hnm hat hcl hin hini (fun s' h1 h2 => hx.at h1 (by rw [h2]; exact hk)) htx hno hcells hslots hfr hlo hd0 hd1 hd2 hd3 hd4 (fun t ce hrun hend hW hL hold hle hce hcls hvm => ?_)
  obtain ⟨L, hL1, hL2⟩ := hL
  subst hL1 hmc hms
  refine ⟨.threw H.size, hrun, hend, ⟨H.size, u, ce, rfl, hpost, ⟨fun k q hq => (hP k q hq).kept (hold q.1 (hP k q hq).lt), hD⟩, ⟨Nat.le_trans hS.1 hle, fun q h1 h2 => ?_⟩, hce, hcls, hvm⟩, ⟨_, rfl⟩, hW, L, hL2, hS.2.2⟩
  rw [hold q (Nat.lt_of_lt_of_le h1 hS.1)]
  exact hS.2.1 q h1 h2
end XTHR
theorem sq_45 (s : State) (h : xS s) : ∃ a : Nat, vk_R "OrderTwoCases" 45 "which is 0 or 1" a s := h.1 (45, "which is 0 or 1") (by decide)
theorem sq_62 (s : State) (h : xS s) : ∃ a : Nat, vk_R "OrderTwoCases" 62 "no such power" a s := h.1 (62, "no such power") (by decide)
theorem sq_73 (s : State) (h : xS s) : ∃ a : Nat, vk_R "OrderTwoCases" 73 "which is 0, 1 or 2" a s := h.1 (73, "which is 0, 1 or 2") (by decide)
theorem sq_92 (s : State) (h : xS s) : ∃ a : Nat, vk_R "OrderTwoCases" 92 "the kind is not 3" a s := h.1 (92, "the kind is not 3") (by decide)
theorem sq_95 (s : State) (h : xS s) : ∃ a : Nat, vk_R "OrderTwoCases" 95 "root is 0 or 1" a s := h.1 (95, "root is 0 or 1") (by decide)
theorem sq_109 (s : State) (h : xS s) : ∃ a : Nat, vk_R "OrderTwoCases" 109 "no such answer" a s := h.1 (109, "no such answer") (by decide)
theorem sq_122 (s : State) (h : xS s) : ∃ a : Nat, vk_R "OrderTwoCases" 122 "no such answer or power" a s := h.1 (122, "no such answer or power") (by decide)
