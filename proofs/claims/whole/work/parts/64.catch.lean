/-! CATCH: a call whose callee throws, in a method that catches it -/
/-- one row of a table, of a class that links: it takes the object or passes it -/
theorem x_row {Q : Handler → Pre} {Z : CtlPost} {e : Env} {d : Bool} {acts : List Action} {S : State} {f : JFrame} {a : Addr} {x : ExceptionTableEntry} {t : List ExceptionTableEntry} {c : ClassId} {ce : Cell} (hx : covers x f.pc = true) (h0 : x.catchType ≠ 0) (hl : S.vm.ClassLinks e.platform f.method.cls x.catchType c) (hcell : S.heap[a]? = some ce) (hvm : ce.vm = .none) (hk : ∃ k, S.vm.classes[ce.cls]? = some k) (hc : ∃ k, S.vm.classes[c]? = some k) :
    wp (findHandler.go f a (x :: t)) Q Z e d acts S ↔ if S.vm.assignable ce.cls c = true then Q (.found x.handlerPc) d acts (S.setVm (S.vm.noted f.method.cls x.catchType (.cls c))) else wp (findHandler.go f a t) Q Z e d acts (S.setVm (S.vm.noted f.method.cls x.catchType (.cls c))) := by
  have hal : S.vm.Alike (S.vm.noted f.method.cls x.catchType (.cls c)) := (Vm.Alike.refl S.vm).noted _ _ _
  obtain ⟨r1, r2⟩ := (resolveClass_links e.toSetting hl).op (op := VmOp.resolveClass f.method.cls x.catchType) rfl
  obtain ⟨k1, hk1⟩ := hk
  obtain ⟨k2, hk2⟩ := hc
  obtain ⟨k3, hk3, -⟩ := hal.2.2 _ _ hk1
  obtain ⟨k4, hk4, -⟩ := hal.2.2 _ _ hk2
  have hobj : ∀ k, ce.vm ≠ .statics k := fun k h => by rw [hvm] at h; cases h
  have has : (S.vm.noted f.method.cls x.catchType (.cls c)).assignable ce.cls c = S.vm.assignable ce.cls c := by rw [hal.assignable]
  simp only [covers] at hx
  cases hfit : S.vm.assignable ce.cls c <;> rw [hfit] at has <;> simp [findHandler.go, hx, h0, r1, r2, hcell, hobj, hk3, hk4, has, VmOp.dirties, VmOp.acts]
/-- how a search ends: with a handler, and warmer tables -/
def x_F (e : Env) (S : State) (f : JFrame) (a : Addr) (hpc : Nat) (vm' : Vm) : Prop := ∀ (Q : Handler → Pre) (Z : CtlPost) (d : Bool) (acts : List Action), wp (findHandler f a) Q Z e d acts S ↔ Q (.found hpc) d acts (S.setVm vm')
section XCATCH
variable {p : Program} {l : Launch} {e : Env} {R : Room} {s : State} {m : MethodId} {args : Array Value} {below : List Frame} {meth : Method} {c : Code} {U : State} {locs : List Loc} {cells slots : Nat}
/-- the step into a handler -/
theorem x_into {tb : Tables} {target : State} {g : JFrame} {a : Addr} (h : At U g.method c below) {pc : Nat} {vm' : Vm} (hf : x_F e ((U.setTop g).pushFrame (.throwing a)) g a pc vm') (k : Steps tb e below ((U.setVm vm').setTop { g with pc := pc, stack := [.ref a] }) target) : Steps tb e below ((U.setTop g).pushFrame (.throwing a)) target := by
  obtain ⟨hgo, hw⟩ := h.throwing a
  obtain ⟨g₀, hg₀⟩ := Option.isSome_iff_exists.mp h.top
  obtain ⟨r, hr⟩ := State.topJava?_eq_some.mp hg₀
  have hstep : ∀ (S : State) (fr : List Frame), x_F e S g a pc vm' → (stepThrowing e S a (.java g :: fr)).1 = (S.setVm vm').setFrames (.java { g with pc := pc, stack := [.ref a] } :: fr) := by
    intro S fr hS
    simp only [stepThrowing, searchFrame, vmDo]
    generalize hres : Sem.go _ e false [] S = res
    obtain ⟨as, rfl, -⟩ := Sem.eq_ok_of hres (a := Handler.found pc) (s' := S.setVm vm') (acts' := []) (by simp [hS _ _ _ _])
    rfl
  have hrV : (U.setVm vm').frames = .java g₀ :: r := hr
  rw [State.setTop_of_frames _ hrV] at k
  refine Steps.head hgo hw ?_
  rw [stepThread_throwing (frames_entered h.top _), hstep _ _ hf, hr, List.tail_cons]
  have e1 : (((U.setTop g).pushFrame (.throwing a)).setVm vm').setFrames (.java { g with pc := pc, stack := [.ref a] } :: r) = (U.setVm vm').setFrames (.java { g with pc := pc, stack := [.ref a] } :: r) := by
    rw [State.pushFrame, State.setTop_of_frames _ hr, State.setFrames_setFrames]
    show ((U.setVm vm').setFrames _).setFrames _ = _
    rw [State.setFrames_setFrames]
  rw [e1]
  exact k
/-- a callee that throws: back in the caller, the note over its frame -/
theorem x_back (X : Stand p l e R s m args below meth c U locs cells slots) {g : JFrame} (hg : g.method = m) (hsize : g.locals.size = c.maxLocals) {ig : Instr} {len : Nat} (hdg : decode c.code g.pc = .ok (ig, len)) (hW : 2 * g.monitorRoom + (g.stack.map fun v => v.category).sum ≤ 8)
    {y : MethodName} {ws : List Cond} {rm : Room} {Pc : Array Value → State → Prop} {Qc : Array Value → State → Outcome → State → Prop} {mc ms : Nat} {free : Addr → Prop} {bytes : ByteArray} {maxL : Nat} {ret : Option FieldType} {mk : MethodId} {a : Array Value}
    (hM : MetT l y ws rm Pc Qc mc ms free) (hbl : FrameBlind Pc) (hrc : rm.cells = mc) (hrs : rm.slots = ms) (hfr : rm.frames + 1 ≤ R.frames) (hlo : 8 + (maxL + 11) + rm.locals ≤ R.locals) (hn : U.methodNamed? y = some mk) (hws : ∀ w ∈ ws, w.before a U = true) (hcode : (Cond.code y bytes maxL ret).before a U = true) (hini : (Cond.initialized y.cls).before a U = true) (hcs : cells + mc ≤ R.cells) (hss : slots + ms ≤ R.slots) (hPc : Pc a U) :
    ∃ (x : Addr) (t U1 : State) (L : List Loc), U1.heap = t.heap ∧ U1.vm = t.vm ∧ Stand p l e R s m args below meth c U1 (locs ++ L) (cells + mc) (slots + ms) ∧ Qc a (U.calling g mk a) (.threw x) t ∧ (∀ q ∈ L, free q.base) ∧ Steps p.tables e below (doInvoke e (U.setTop g) [] mk a).1 ((U1.setTop g).pushFrame (.throwing x)) := by
  obtain ⟨mY, cY, hmY, hcY, -, hlY, -, -, -, -⟩ := Cond.code_spec hn hcode
  obtain ⟨kY, hkY, -⟩ := className_of_methodNamed hn
  subst hg
  have hat : At U g.method c below := X.here
  have hroom := X.room_calling (g := g) (R' := rm) (args' := a) hsize hmY hcY hfr (by rw [hlY]; omega) (by rw [hrc]; exact hcs) (by rw [hrs]; exact hss)
  have happ : (headSpec ws rm).appliesLoose y e.platform (U.calling g mk a) = true := Spec.appliesLoose_calling (g := g) hat hdg hn hkY (Cond.initialized_spec (findClass_of_methodNamed hn) hkY hini) hroom (atoms_intro hws)
  obtain ⟨mid, hmid⟩ := hat.above
  have hfs : (U.setTop g).frames = (.java g :: mid) ++ below := by rw [State.frames_setTop' g hat.top, hmid]; rfl
  obtain ⟨o, t, hst, -, hend, hQ⟩ := Steps.callFree hM p X.admits X.cas X.clock (acts := []) hfs happ (hbl a U g mk hPc) trivial
  obtain ⟨hq, ⟨x, rfl⟩, hW2, L, ⟨i1, i2, i3, i4, i5, i6⟩, hL⟩ := hQ
  rw [State.frames_setTop' g hat.top] at hend
  have hft : t.frames = .throwing x :: .java g :: U.frames.tail := hend
  obtain ⟨g₀, hg₀⟩ := Option.isSome_iff_exists.mp hat.top
  obtain ⟨r, hr⟩ := State.topJava?_eq_some.mp hg₀
  obtain ⟨th, hth, -⟩ := State.frames_cons hr
  have hWU : U.WarmedH t.vm := hW2
  have hsm : U.sameButNew ({ U with heap := t.heap, slotsUsed := t.slotsUsed } : State) L mc ms := by
    refine ⟨?_, i2, i3, i4, i5, i6⟩
    show ({ U with heap := t.heap, slotsUsed := t.slotsUsed } : State) = { U.setFrames U.frames with heap := t.heap, slotsUsed := t.slotsUsed }
    rw [State.setFrames_self hth]
  have ht : t = ((({ U with heap := t.heap, slotsUsed := t.slotsUsed } : State).setVm t.vm).setTop g).pushFrame (.throwing x) := by
    have hr' : (({ U with heap := t.heap, slotsUsed := t.slotsUsed } : State).setVm t.vm).frames = .java g₀ :: r := hr
    have h1 : t = ({ t with vm := (U.calling g mk a).vm } : State).setVm t.vm := rfl
    have i7 : ({ t with vm := (U.calling g mk a).vm } : State) = { (U.calling g mk a).setFrames t.frames with heap := t.heap, slotsUsed := t.slotsUsed } := i1
    rw [i7] at h1
    refine h1.trans ?_
    show ({ (U.calling g mk a).setFrames t.frames with heap := t.heap, slotsUsed := t.slotsUsed } : State).setVm t.vm = _
    rw [hft, State.calling_eq hat.top, State.setFrames_setFrames, State.pushFrame, State.frames_setTop _ hr', State.setTop_of_frames _ hr', State.setFrames_setFrames, hr]
    rfl
  refine ⟨x, t, ({ U with heap := t.heap, slotsUsed := t.slotsUsed } : State).setVm t.vm, L, rfl, rfl, ⟨X.admits, X.cas, X.clock, X.frames, X.room, X.hears, X.method, X.code, (X.here.setHeapUsed t.heap t.slotsUsed).setVm hWU.alike, X.tail, State.WarmedH.trans X.warmed hWU, X.limits, X.bytes, X.same.trans (hsm.setVm s.vm)⟩, hq, hL, ?_⟩
  rw [← ht]
  exact hst
end XCATCH
