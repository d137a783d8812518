/-! CATCH 2: the tables' rows; the call itself; calls of static methods that have a table -/
def x_G (e : Env) (s : State) (m : MethodId) (pc : Nat) (E : String) (hpc : Nat) : Prop := ∀ (S : State) (f : JFrame) (a : Addr) (ce : Cell), f.method = m → f.pc = pc → s.WarmedH S.vm → S.heap[a]? = some ce → ce.vm = .none → s.vm.findClass E = some ce.cls → ∃ vm' : Vm, s.WarmedH vm' ∧ x_F e S f a hpc vm'
section XG
variable {e : Env} {s : State} {m : MethodId} {args : Array Value} {meth : Method} {c : Code} {own E : String} {pc a1 b1 hpc ct : Nat} {rest : List (Nat × Nat × Nat × Nat)}
theorem x_find1 (hm : s.vm.method? m = some meth) (hcd : meth.code = some c) (htab : c.exceptionTable.toList.map (fun h => (h.startPc, h.endPc, h.handlerPc, h.catchType)) = (a1, b1, hpc, ct) :: rest) (hcov : a1 ≤ pc ∧ pc < b1) (hct : ct ≠ 0) (hown : s.vm.findClass own = some m.cls) (hlink : (Cond.classLink own ct E).before args s = true) (hcast : va_Nw (.castable E E) s) (hpl : e.platform.magicAccessors = ({} : Platform).magicAccessors) : x_G e s m pc E hpc := by
  intro S f a ce hfm hfp hW hcell hvm hcls
  subst hfm hfp
  cases htl : c.exceptionTable.toList with
  | nil => rw [htl] at htab; cases htab
  | cons x r =>
    rw [htl] at htab
    simp only [List.map_cons, List.cons.injEq, Prod.mk.injEq] at htab
    obtain ⟨⟨rfl, rfl, rfl, rfl⟩, -⟩ := htab
    obtain ⟨c1, hc1, hcl⟩ := Cond.classLink_spec hown hlink e.platform hpl
    cases Option.some.inj (hc1.symm.trans hcls)
    have hfit : s.vm.assignable ce.cls ce.cls = true := vb_asgC hcast _ _ hcls hcls
    obtain ⟨dk, _, _, kt, hd, _, _, _, _, hkt, _, hopen⟩ := hcl.here
    obtain ⟨kt', hkt', -⟩ := hW.alike.2.2 _ _ hkt
    refine ⟨S.vm.noted f.method.cls x.catchType (.cls ce.cls), hW.noted hd hopen (State.rightAt_cls hcl), fun Q Z d acts => ?_⟩
    rw [W.findHandler_eq (meth := meth) (code := c) (by rw [hW.alike.method?]; exact hm) hcd, htl, x_row (by simp [covers, hcov.1, hcov.2]) hct (hW.classLinks hcl) hcell hvm ⟨_, hkt'⟩ ⟨_, hkt'⟩, if_pos (by rw [hW.alike.assignable]; exact hfit)]
theorem x_find2 {a2 b2 hp2 ct2 : Nat} {E2 : String} (hm : s.vm.method? m = some meth) (hcd : meth.code = some c) (htab : c.exceptionTable.toList.map (fun h => (h.startPc, h.endPc, h.handlerPc, h.catchType)) = (a2, b2, hp2, ct2) :: (a1, b1, hpc, ct) :: rest) (hcov2 : a2 ≤ pc ∧ pc < b2) (hcov : a1 ≤ pc ∧ pc < b1) (hct2 : ct2 ≠ 0) (hct : ct ≠ 0) (hown : s.vm.findClass own = some m.cls) (hlink2 : (Cond.classLink own ct2 E2).before args s = true) (hlink : (Cond.classLink own ct E).before args s = true) (hnot : va_Nc E E2 s) (hcast : va_Nw (.castable E E) s) (hpl : e.platform.magicAccessors = ({} : Platform).magicAccessors) : x_G e s m pc E hpc := by
  intro S f a ce hfm hfp hW hcell hvm hcls
  subst hfm hfp
  cases htl : c.exceptionTable.toList with
  | nil => rw [htl] at htab; cases htab
  | cons y r =>
    cases r with
    | nil => rw [htl] at htab; simp at htab
    | cons x r =>
      rw [htl] at htab
      simp only [List.map_cons, List.cons.injEq, Prod.mk.injEq] at htab
      obtain ⟨⟨rfl, rfl, rfl, rfl⟩, ⟨rfl, rfl, rfl, rfl⟩, -⟩ := htab
      obtain ⟨c1, hc1, hcl⟩ := Cond.classLink_spec hown hlink e.platform hpl
      cases Option.some.inj (hc1.symm.trans hcls)
      obtain ⟨c2, hc2, hcl2⟩ := Cond.classLink_spec hown hlink2 e.platform hpl
      obtain ⟨n1, n2, hn1, hn2, hno⟩ := hnot
      cases Option.some.inj (hn1.symm.trans hcls)
      cases Option.some.inj (hn2.symm.trans hc2)
      have hfit : s.vm.assignable ce.cls ce.cls = true := vb_asgC hcast _ _ hcls hcls
      obtain ⟨dk, _, _, kt, hd, _, _, _, _, hkt, _, hopen⟩ := hcl.here
      obtain ⟨dk2, _, _, kt2, hd2, _, _, _, _, hkt2, _, hopen2⟩ := hcl2.here
      obtain ⟨k1, hk1, -⟩ := hW.alike.2.2 _ _ hkt
      obtain ⟨k2, hk2, -⟩ := hW.alike.2.2 _ _ hkt2
      have hW1 : s.WarmedH (S.vm.noted f.method.cls y.catchType (.cls c2)) := hW.noted hd2 hopen2 (State.rightAt_cls hcl2)
      obtain ⟨k3, hk3, -⟩ := hW1.alike.2.2 _ _ hkt
      refine ⟨(S.vm.noted f.method.cls y.catchType (.cls c2)).noted f.method.cls x.catchType (.cls ce.cls), hW1.noted hd hopen (State.rightAt_cls hcl), fun Q Z d acts => ?_⟩
      rw [W.findHandler_eq (meth := meth) (code := c) (by rw [hW.alike.method?]; exact hm) hcd, htl, x_row (by simp [covers, hcov2.1, hcov2.2]) hct2 (hW.classLinks hcl2) hcell hvm ⟨_, hk1⟩ ⟨_, hk2⟩, if_neg (by rw [hW.alike.assignable, hno]; decide)]
      rw [x_row (S := S.setVm (S.vm.noted f.method.cls y.catchType (.cls c2))) (by simp [covers, hcov.1, hcov.2]) hct (hW1.classLinks hcl) hcell hvm ⟨_, hk3⟩ ⟨_, hk3⟩, if_pos (by
        show (S.vm.noted f.method.cls y.catchType (.cls c2)).assignable ce.cls ce.cls = true
        rw [hW1.alike.assignable]
        exact hfit)]
      rfl
end XG
section XCALL
variable {p : Program} {l : Launch} {e : Env} {R : Room} {s : State} {m : MethodId} {args : Array Value} {below : List Frame} {meth : Method} {c : Code} {H : Heap} {locs : List Loc} {cells slots : Nat} {Q : State → Prop}
variable {cc : ByteArray} {pc : Nat} {ls : Array Slot} {rest st0 : List Value} {A0 : Nat → Prop} {H0 : Heap} {mc ms : Nat} {D : va_G} {cl : List vw_C} {ws0 : va_W}
variable {y : MethodName} {bytes : ByteArray} {maxL nL n index : Nat} {ret : Option FieldType} {ws : List Cond} {rm : Room} {Pc : Array Value → State → Prop} {Ts : List Cond} {own C : String} {b : Addr} {As : List Value}
/-- invokevirtual of a method that throws; the caller catches it at hpc -/
theorem x_callT {S : Type} {E : String} {hpc : Nat} {post : S → Prop} {wn wf : S → va_W} {wc wr : va_W} (Sx : CallFix p m c cc nL s args Ts own) (hM : MetT l y ws rm Pc (x_Q E post (fun u t => wB D cl (va_A wc H.size) (wn u) t) (va_A wc H.size)) mc ms (va_A wc H.size)) (cw : CallW R s args own C index y bytes maxL ret ws rm mc ms n) (hp : PreV s H C b Pc As) (hG : x_G e s m pc E hpc)
    (hn : As.length = n) (hsize : ls.size = nL) (hstack : st0 = As.reverse ++ .ref b :: rest) (hW8 : 2 * 0 + (rest.map fun v => v.category).sum ≤ 8) (hdg : decode cc pc = .ok (.invokevirtual index, 3)) (hf : cells + mc ≤ R.cells ∧ slots + ms ≤ R.slots)
    (hP : va_P D cl ws0 H) (hD : va_D A0 ws0) (hS : va_S A0 H0 H locs) (hA : ∀ q, H0.size ≤ q → A0 q) (isC isR isO : List Nat) (hC : isC.map (fun i => ws0[i]?) = wc.map some) (hR : isR.map (fun i => ws0[i]?) = wr.map some) (hnR : va_nd isR = true) (hdis : ∀ i ∈ isR, i ∉ isC) (hno : va_nd isO = true) (hO : ∀ u, isO.filterMap (fun i => (wr ++ wn u)[i]?) = wf u) (hO2 : ∀ u, isO.map (fun i => (wr ++ wn u)[i]?) = (wf u).map some)
    (kk : ∀ (x : Nat) (u : S) (H1 : Heap) (locs1 : List Loc), post u → va_P D cl (wf u) H1 → va_D A0 (wf u) → va_S A0 H0 H1 locs1 → W p l e R s m args below meth c H1 locs1 (cells + mc) (slots + ms) Q (F0 m hpc ls [.ref x])) : W p l e R s m args below meth c H locs cells slots Q (F0 m pc ls st0) := by
  subst hstack
  intro T hT X
  obtain ⟨⟨hrc, hrs, hfr, hlo, hws, hcw, hcode, hini, hy, hlen, hl⟩, hin, hse⟩ := cw
  obtain ⟨hx, hb, hml, ho, -⟩ := Sx
  obtain ⟨hbl, ⟨cellB, hcB, hoB, hclB⟩, hPc⟩ := hp
  obtain ⟨mk, methM, hnamed, hmethM, hstM, habM⟩ := Cond.instanceMethod_spec hin
  obtain ⟨methM', cM, hmethM', -, -, -, -, -, -, hsigM⟩ := Cond.code_spec hnamed hcode
  cases hmethM.symm.trans hmethM'
  obtain ⟨c2, r2, m2, q1, q2, q3, q4, kP, hkP, hkPi⟩ := Cond.selects_spec hse
  cases hclB.symm.trans q1
  cases (State.methodFound?_of_named hnamed hy).symm.trans q2
  cases hnamed.symm.trans q3
  have hselP : selectMethod e.platform s.vm cellB.cls mk = .method mk := by rw [Launch.admits_selectMethod X.admits]; exact q4
  obtain ⟨vm₁, X₁, hstep₁⟩ := X.invokevirtual hx ho hl hnamed hmethM hstM hkP hkPi hy (a := b) (cell := cellB) (by rw [hT]; exact hcB) (fun z h => by rw [h] at hoB; cases hoB) hselP hmethM habM hkP hkPi (g := F0 m pc ls (As.reverse ++ .ref b :: rest)) rfl (argsL := As) (rest := rest) (hn.trans (hlen _ hsigM)) rfl (by rw [hb]; exact hdg)
  obtain ⟨x, t, U1, L, hh, hv, X2, hq, hL, hsteps⟩ := x_back X₁ (g := F0 m pc ls rest) rfl (hsize.trans hml.symm) (by rw [hb]; exact hdg) hW8 hM hbl hrc hrs hfr hlo (X₁.named hnamed) (fun w hw => hws w hw (Value.ref b :: As).toArray _ X₁.warmed) (hws _ hcw _ _ X₁.warmed) (word_at X₁.warmed (Or.inl (by first | rfl | simp [Cond.onTables, Cond.keeps, Cond.steady])) hini) hf.1 hf.2 (hPc (T.setVm vm₁) hT X₁.warmed)
  obtain ⟨x1, u, ce, hox, hpost, ⟨hP1, hD1⟩, ⟨hz, hkp⟩, hce, hcls, hcv⟩ := hq
  cases hox
  have hz' : H.size ≤ U1.heap.size := by rw [hh, ← hT]; exact hz
  have hkp' : ∀ q : Nat, q < H.size → ¬ va_A wc H.size q → U1.heap[q]? = H[q]? := fun q h1 h2 => by
    rw [hh, ← hT]
    exact hkp q (by rw [← hT] at h1; exact h1) h2
  have hcls' : s.vm.findClass E = some ce.cls := by
    have h1 : vm₁.findClass E = some ce.cls := hcls
    have h2 : s.WarmedH vm₁ := X₁.warmed
    rw [h2.alike.findClass] at h1
    exact h1
  obtain ⟨vm', hWv, hF⟩ := hG ((U1.setTop (F0 m pc ls rest)).pushFrame (.throwing x)) (F0 m pc ls rest) x ce rfl rfl X2.warmed (by show U1.heap[x]? = some ce; rw [hh]; exact hce) hcv hcls'
  have hF0 := va_free hD hS hA isC hC
  obtain ⟨hP2, hD2⟩ := va_join hP hD isC isR hC hR hnR hdis hkp' hF0 (by rw [hh]; exact hP1) hD1
  obtain ⟨t2, s1, s2⟩ := kk x u U1.heap (locs ++ L) hpost (hP2.sub isO (hO u)) (hD2.sub isO hno (hO2 u)) ⟨Nat.le_trans hS.1 hz', fun q h1 h2 => by rw [hkp' q (Nat.lt_of_lt_of_le h1 hS.1) (fun z => h2 (hF0 q z))]; exact hS.2.1 q h1 h2, fun q hq => by
      rcases List.mem_append.mp hq with h | h
      · exact hS.2.2 q h
      · exact hF0 _ (hL q h)⟩ (U1.setVm vm') rfl (X2.noted hWv)
  refine ⟨t2, hstep₁ _ (fun acts => ?_), s2⟩
  rw [doInvoke_state]
  exact hsteps.trans (x_into X2.here hF s1)
/-- a static method that has a table of handlers -/
theorem x_runSW {hh : List (Nat × Nat × Nat × Nat)} {Qc : Array Value → State → Outcome → State → Prop} {free : Addr → Prop} {g : JFrame} (Sx : CallFix p m c cc nL s args tT own) (hM : Met l y ws rm Pc Qc mc ms free) (hmem : ∀ w ∈ ws, w ∈ tT) (hcw : Cond.codeWith y bytes maxL ret hh ∈ ws) (hl : Cond.methodLink own index y ∈ tT) (hst : Cond.static y ∈ tT) (hini : Cond.initialized y.cls ∈ tT) (hrc : rm.cells = mc) (hrs : rm.slots = ms) (hd : y.cls ≠ "java/lang/invoke/MethodHandle" ∧ y.cls ≠ "java/lang/invoke/VarHandle" ∧ (parseMethodDescriptor y.desc).map (fun d => d.parameters.length) = some n) (hRm : rm.frames + 1 ≤ R.frames ∧ 8 + (maxL + 11) + rm.locals ≤ R.locals) (hp : PreS s H Pc As)
    (hg : g.method = m) (hn : As.length = n) (hsize : g.locals.size = nL) (hstack : g.stack = As.reverse ++ rest) (hW : 2 * g.monitorRoom + (rest.map fun v => v.category).sum ≤ 8) (hdg : decode cc g.pc = .ok (.invokestatic index, 3)) (hf : cells + mc ≤ R.cells ∧ slots + ms ≤ R.slots) :
    va_Run p l e R s m args below meth c H locs cells slots mc ms g rest (Qc As.toArray) free := by
  obtain ⟨hx, hb, hml, ho, hts⟩ := Sx
  have hws : ∀ w ∈ ws, ∀ (a' : Array Value) (U : State), s.WarmedH U.vm → w.before a' U = true := fun w hw a' U hWU => word_at hWU (good_of_word (List.mem_filter.mp (hmem w hw)).2) (hts w (hmem w hw))
  have hK : Back l R p e below s args y 3 8 (PreOf R mc ms Pc) (PostOf Qc mc ms free) := va_backW (hh := hh) (bytes := bytes) (maxL := maxL) (ret := ret) hM hp.1 hrc hrs hRm.1 hRm.2 hws hcw (fun a' U hWU => word_at hWU (good_of_word (List.mem_filter.mp hini).2) (hts _ hini))
  obtain ⟨mk, methM, cM, hnamed, hmethM, -, -, -, -, -, -, hsigM⟩ := Cond.codeWith_spec (hts _ (hmem _ hcw))
  obtain ⟨kP, hkP, -⟩ := className_of_methodNamed hnamed
  have hlen : As.length = methM.sig.parameters.length := by
    have h2 := hd.2.2
    rw [hsigM] at h2
    rw [hn]
    exact (Option.some.inj h2).symm
  intro T hT X
  obtain ⟨vm₁, X₁, hstep₁⟩ := X.invokestatic hx ho (hts _ hl) hnamed hmethM (Cond.static_spec hnamed hmethM (hts _ hst)) hkP (Cond.initialized_spec (findClass_of_methodNamed hnamed) hkP (hts _ hini)) ⟨hd.1, hd.2.1⟩ (g := g) hg (argsL := As) (rest := rest) hlen hstack (by rw [hb]; exact hdg)
  obtain ⟨v, ⟨U', l2, c2, s2⟩, X', ⟨g', mk', t, L, e1, e2, hq, h1, hL, h2, h3⟩, st⟩ := hK m meth c ⟨T.setVm vm₁, locs, cells, slots⟩ { g with stack := rest } (.invokestatic index) mk As.toArray X₁ hg (hsize.trans hml.symm) (by rw [hb]; exact hdg) hW (X₁.named hnamed) ⟨hf.1, hf.2, hp.2 (T.setVm vm₁) hT X₁.warmed⟩
  dsimp only [Pt.U, Pt.locs, Pt.cells, Pt.slots] at X' e1 e2 h1 h2 h3 st
  subst h1; subst h2; subst h3
  exact ⟨v, (T.setVm vm₁).calling g' mk' As.toArray, t, U', L, hT, X', hL, e1, e2, hq, fun tg h => hstep₁ _ fun acts => by rw [doInvoke_state]; exact st.trans h⟩
end XCALL
