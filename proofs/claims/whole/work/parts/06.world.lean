/-! WORLD: contracts over lists of cells: read-only (wR) and writing (wP, wB); int arrays by a function on Int. -/
def sT (f : Int → Int) (k x : Int) : Int → Int := fun j => if j = k then x else f j
def aR (f : Int → Int) : Nat → Int32 := fun j => iZ (f (j : Int))
theorem aR_at (f : Int → Int) {k : Int} (h : 0 ≤ k) (h2 : k < 2147483648) : aR f (iZ k).toNatClampNeg = iZ (f k) := by
  rw [iZ_clamp h h2]
  show iZ (f ((k.toNat : Nat) : Int)) = iZ (f k)
  rw [Int.toNat_of_nonneg h]
theorem aR_sT (f : Int → Int) {k : Int} (x : Int) (h : 0 ≤ k) (h2 : k < 2147483648) : upd (aR f) (iZ k).toNatClampNeg (iZ x) = aR (sT f k x) := by
  rw [iZ_clamp h h2]
  funext j
  show upd (aR f) k.toNat (iZ x) j = iZ (sT f k x (j : Int))
  by_cases hj : j = k.toNat
  · subst hj
    rw [pk_us]
    show iZ x = iZ (if ((k.toNat : Nat) : Int) = k then x else f _)
    rw [Int.toNat_of_nonneg h, if_pos rfl]
  · rw [pk_un hj]
    show iZ (f (j : Int)) = iZ (if (j : Int) = k then x else f (j : Int))
    rw [if_neg (by omega)]
def wR (D : va_G) (cl : List vw_C) (tys : List (ClassId × FieldType)) (ws : va_W) (U : State) : Prop := va_P D cl ws U.heap ∧ va_K D cl tys U
def wP (D : va_G) (cl : List vw_C) (tys : List (ClassId × FieldType)) (ws : va_W) (sz : Nat) (U : State) : Prop := U.heap.size = sz ∧ va_P D cl ws U.heap ∧ va_K D cl tys U ∧ va_D (fun _ => True) ws
def wB (D : va_G) (cl : List vw_C) (A : Nat → Prop) (wn : va_W) (t : State) : Prop := va_P D cl wn t.heap ∧ va_D A wn
theorem wR_blind {av : List Value} {D : va_G} {cl : List vw_C} {tys : List (ClassId × FieldType)} {ws : va_W} : FrameBlind (va_Pc av (wR D cl tys ws)) := fun a U g mk q => by
  obtain ⟨q0, qP, qK⟩ := q
  exact ⟨q0, qP, va_K.moved (u := U) (U := U.calling g mk a) (Vm.Alike.refl U.vm) qK⟩
theorem wP_blind {av : List Value} {D : va_G} {cl : List vw_C} {tys : List (ClassId × FieldType)} {ws : va_W} {sz : Nat} : FrameBlind (va_Pc av (wP D cl tys ws sz)) := fun a U g mk q => by
  obtain ⟨q0, q1, qP, qK, qD⟩ := q
  exact ⟨q0, q1, qP, va_K.moved (u := U) (U := U.calling g mk a) (Vm.Alike.refl U.vm) qK, qD⟩
theorem wR_preV {s : State} {H : Heap} {C : String} {b : Addr} {As : List Value} {D : va_G} {cl : List vw_C} {tys tys0 : List (ClassId × FieldType)} {ws ws0 : va_W} {ci : Nat} {q : vw_C} {fs : List Value} (hK : va_K D cl tys0 s) (hP : va_P D cl ws0 H) (isK : List Nat) (hk : isK.filterMap (fun i => tys0[i]?) = tys) (isP : List Nat) (hp : isP.filterMap (fun i => ws0[i]?) = ws) (hc : cl[ci]? = some q) (hC : q.1 = C) (q0 : Nat) (he : ws0[q0]? = some (b, .inr (ci, fs))) : PreV s H C b (va_Pc (.ref b :: As) (wR D cl tys ws)) As :=
  ⟨wR_blind, by subst hC; exact va_recv hK hP hc he, fun U hU hW => ⟨rfl, by rw [hU]; exact hP.sub isP hp, va_K.moved hW.alike (hK.sub isK hk)⟩⟩
theorem wR_preS {s : State} {H : Heap} {As : List Value} {D : va_G} {cl : List vw_C} {tys tys0 : List (ClassId × FieldType)} {ws ws0 : va_W} (hK : va_K D cl tys0 s) (hP : va_P D cl ws0 H) (isK : List Nat) (hk : isK.filterMap (fun i => tys0[i]?) = tys) (isP : List Nat) (hp : isP.filterMap (fun i => ws0[i]?) = ws) : PreS s H (va_Pc As (wR D cl tys ws)) As :=
  ⟨wR_blind, fun U hU hW => ⟨rfl, by rw [hU]; exact hP.sub isP hp, va_K.moved hW.alike (hK.sub isK hk)⟩⟩
theorem wP_preV {s : State} {H : Heap} {C : String} {b : Addr} {As : List Value} {D : va_G} {cl : List vw_C} {tys tys0 : List (ClassId × FieldType)} {ws ws0 : va_W} {A : Nat → Prop} {ci : Nat} {q : vw_C} {fs : List Value} (hK : va_K D cl tys0 s) (hP : va_P D cl ws0 H) (hD : va_D A ws0) (isK : List Nat) (hk : isK.filterMap (fun i => tys0[i]?) = tys) (isP : List Nat) (hn : va_nd isP = true) (hp : isP.filterMap (fun i => ws0[i]?) = ws) (hp2 : isP.map (fun i => ws0[i]?) = ws.map some) (hc : cl[ci]? = some q) (hC : q.1 = C) (q0 : Nat) (he : ws0[q0]? = some (b, .inr (ci, fs))) : PreV s H C b (va_Pc (.ref b :: As) (wP D cl tys ws H.size)) As :=
  ⟨wP_blind, by subst hC; exact va_recv hK hP hc he, fun U hU hW => ⟨rfl, by rw [hU], by rw [hU]; exact hP.sub isP hp, va_K.moved hW.alike (hK.sub isK hk), (hD.sub isP hn hp2).weaken (fun _ _ _ _ => trivial)⟩⟩
theorem wP_preS {s : State} {H : Heap} {As : List Value} {D : va_G} {cl : List vw_C} {tys tys0 : List (ClassId × FieldType)} {ws ws0 : va_W} {A : Nat → Prop} (hK : va_K D cl tys0 s) (hP : va_P D cl ws0 H) (hD : va_D A ws0) (isK : List Nat) (hk : isK.filterMap (fun i => tys0[i]?) = tys) (isP : List Nat) (hn : va_nd isP = true) (hp : isP.filterMap (fun i => ws0[i]?) = ws) (hp2 : isP.map (fun i => ws0[i]?) = ws.map some) : PreS s H (va_Pc As (wP D cl tys ws H.size)) As :=
  ⟨wP_blind, fun U hU hW => ⟨rfl, by rw [hU], by rw [hU]; exact hP.sub isP hp, va_K.moved hW.alike (hK.sub isK hk), (hD.sub isP hn hp2).weaken (fun _ _ _ _ => trivial)⟩⟩
section WC
variable {p : Program} {l : Launch} {e : Env} {R : Room} {s : State} {m : MethodId} {args : Array Value} {below : List Frame} {meth : Method} {c : Code} {H : Heap} {locs : List Loc} {cells slots : Nat} {Q : State → Prop}
variable {cc : ByteArray} {pc : Nat} {ls : Array Slot} {rest st0 : List Value} {a : Array Value} {A0 : Nat → Prop} {H0 : Heap} {mc ms : Nat} {D : va_G} {cl : List vw_C} {tys : List (ClassId × FieldType)} {ws : va_W}
/-- a call that only reads, its answer known -/
theorem w_rdi {r0 : Int32} (hr : va_Run p l e R s m args below meth c H locs cells slots 0 0 (F0 m pc ls st0) rest (vp_Si (fun r => r = r0) a) (fun _ => False)) (kk : W p l e R s m args below meth c H locs cells slots Q (F0 m (pc + 3) ls (.int r0 :: rest))) : W p l e R s m args below meth c H locs cells slots Q (F0 m pc ls st0) := vp_callSi hr.run (fun r hr => by rw [hr]; exact kk)
theorem w_rdl {r0 : Int64} (hr : va_Run p l e R s m args below meth c H locs cells slots 0 0 (F0 m pc ls st0) rest (vp_Sl (fun r => r = r0) a) (fun _ => False)) (kk : W p l e R s m args below meth c H locs cells slots Q (F0 m (pc + 3) ls (.long r0 :: rest))) : W p l e R s m args below meth c H locs cells slots Q (F0 m pc ls st0) := vp_callSl hr.run (fun r hr => by rw [hr]; exact kk)
/-- a call that writes in its part of the world, and makes new cells; the world comes back in the order isO -/
theorem w_callv {S : Type} {post : S → Prop} {wn wf : S → va_W} {wc wr : va_W} (hr : va_Run p l e R s m args below meth c H locs cells slots mc ms (F0 m pc ls st0) rest (va_Qv post (fun u t => wB D cl (va_A wc H.size) (wn u) t) (va_A wc H.size) a) (va_A wc H.size))
    (hP : va_P D cl ws H) (hD : va_D A0 ws) (hS : va_S A0 H0 H locs) (hA : ∀ q, H0.size ≤ q → A0 q) (isC isR isO : List Nat) (hC : isC.map (fun i => ws[i]?) = wc.map some) (hR : isR.map (fun i => ws[i]?) = wr.map some) (hn : va_nd isR = true) (hdis : ∀ i ∈ isR, i ∉ isC) (hno : va_nd isO = true) (hO : ∀ u, isO.filterMap (fun i => (wr ++ wn u)[i]?) = wf u) (hO2 : ∀ u, isO.map (fun i => (wr ++ wn u)[i]?) = (wf u).map some)
    (kk : ∀ (u : S) (H1 : Heap) (locs1 : List Loc), post u → va_P D cl (wf u) H1 → va_D A0 (wf u) → va_S A0 H0 H1 locs1 → W p l e R s m args below meth c H1 locs1 (cells + mc) (slots + ms) Q (F0 m (pc + 3) ls rest)) : W p l e R s m args below meth c H locs cells slots Q (F0 m pc ls st0) := by
  have hF := va_free hD hS hA isC hC
  refine va_callv hr hS (fun q _ h => hF q h) hF (fun u t H1 locs1 ht hvm hw hB hz hk hS1 => ?_)
  obtain ⟨hP1, hD1⟩ := hB
  rw [ht] at hP1
  obtain ⟨hP2, hD2⟩ := va_join hP hD isC isR hC hR hn hdis hk hF hP1 hD1
  exact kk u H1 locs1 hw (hP2.sub isO (hO u)) (hD2.sub isO hno (hO2 u)) hS1
theorem w_calli {S : Type} {post : Int32 → S → Prop} {wn wf : S → va_W} {wc wr : va_W} (hr : va_Run p l e R s m args below meth c H locs cells slots mc ms (F0 m pc ls st0) rest (va_Qi post (fun u t => wB D cl (va_A wc H.size) (wn u) t) (va_A wc H.size) a) (va_A wc H.size))
    (hP : va_P D cl ws H) (hD : va_D A0 ws) (hS : va_S A0 H0 H locs) (hA : ∀ q, H0.size ≤ q → A0 q) (isC isR isO : List Nat) (hC : isC.map (fun i => ws[i]?) = wc.map some) (hR : isR.map (fun i => ws[i]?) = wr.map some) (hn : va_nd isR = true) (hdis : ∀ i ∈ isR, i ∉ isC) (hno : va_nd isO = true) (hO : ∀ u, isO.filterMap (fun i => (wr ++ wn u)[i]?) = wf u) (hO2 : ∀ u, isO.map (fun i => (wr ++ wn u)[i]?) = (wf u).map some)
    (kk : ∀ (r : Int32) (u : S) (H1 : Heap) (locs1 : List Loc), post r u → va_P D cl (wf u) H1 → va_D A0 (wf u) → va_S A0 H0 H1 locs1 → W p l e R s m args below meth c H1 locs1 (cells + mc) (slots + ms) Q (F0 m (pc + 3) ls (.int r :: rest))) : W p l e R s m args below meth c H locs cells slots Q (F0 m pc ls st0) := by
  have hF := va_free hD hS hA isC hC
  refine va_calli hr hS (fun q _ h => hF q h) hF (fun r u t H1 locs1 ht hvm hw hB hz hk hS1 => ?_)
  obtain ⟨hP1, hD1⟩ := hB
  rw [ht] at hP1
  obtain ⟨hP2, hD2⟩ := va_join hP hD isC isR hC hR hn hdis hk hF hP1 hD1
  exact kk r u H1 locs1 hw (hP2.sub isO (hO u)) (hD2.sub isO hno (hO2 u)) hS1
theorem w_callr {S : Type} {post : S → Prop} {wn wf : S → va_W} {wc wr : va_W} {ra : S → Nat} (hr : va_Run p l e R s m args below meth c H locs cells slots mc ms (F0 m pc ls st0) rest (va_Qr post (fun u b t => b = ra u ∧ wB D cl (va_A wc H.size) (wn u) t) (va_A wc H.size) a) (va_A wc H.size))
    (hP : va_P D cl ws H) (hD : va_D A0 ws) (hS : va_S A0 H0 H locs) (hA : ∀ q, H0.size ≤ q → A0 q) (isC isR isO : List Nat) (hC : isC.map (fun i => ws[i]?) = wc.map some) (hR : isR.map (fun i => ws[i]?) = wr.map some) (hn : va_nd isR = true) (hdis : ∀ i ∈ isR, i ∉ isC) (hno : va_nd isO = true) (hO : ∀ u, isO.filterMap (fun i => (wr ++ wn u)[i]?) = wf u) (hO2 : ∀ u, isO.map (fun i => (wr ++ wn u)[i]?) = (wf u).map some)
    (kk : ∀ (u : S) (H1 : Heap) (locs1 : List Loc), post u → va_P D cl (wf u) H1 → va_D A0 (wf u) → va_S A0 H0 H1 locs1 → W p l e R s m args below meth c H1 locs1 (cells + mc) (slots + ms) Q (F0 m (pc + 3) ls (.ref (ra u) :: rest))) : W p l e R s m args below meth c H locs cells slots Q (F0 m pc ls st0) := by
  have hF := va_free hD hS hA isC hC
  refine va_callr hr hS (fun q _ h => hF q h) hF (fun u b t H1 locs1 ht hvm hw hB hz hk hS1 => ?_)
  obtain ⟨rfl, hP1, hD1⟩ := hB
  rw [ht] at hP1
  obtain ⟨hP2, hD2⟩ := va_join hP hD isC isR hC hR hn hdis hk hF hP1 hD1
  exact kk u H1 locs1 hw (hP2.sub isO (hO u)) (hD2.sub isO hno (hO2 u)) hS1
theorem w_reti {v : Int32} (hexec : p.tables.exec = Jvm.exec) (hb : c.code = cc) (hr : meth.sig.returnType = some .int) (hlocks : meth.locks = false) {r0 : Int32} (hv : v = r0) (hdg : decode cc pc = .ok (.ireturn, 1)) : W p l e R s m args below meth c s.heap [] cells slots (MQ below (vp_Si (fun r => r = r0)) args s cells slots (fun _ => False)) (F0 m pc ls [.int v]) := W.iret hexec hb hr (fun t ht _ => ⟨v, rfl, hv, ht⟩) (fun q h => by cases h) hdg hlocks
theorem w_retl {v : Int64} (hexec : p.tables.exec = Jvm.exec) (hb : c.code = cc) (hr : meth.sig.returnType = some .long) (hlocks : meth.locks = false) {r0 : Int64} (hv : v = r0) (hdg : decode cc pc = .ok (.lreturn, 1)) : W p l e R s m args below meth c s.heap [] cells slots (MQ below (vp_Sl (fun r => r = r0)) args s cells slots (fun _ => False)) (F0 m pc ls [.long v]) := W.lret hexec hb hr (fun t ht _ => ⟨v, rfl, hv, ht⟩) (fun q h => by cases h) hdg hlocks
theorem w_retz {v : Int32} {ty : FieldType} (hexec : p.tables.exec = Jvm.exec) (hb : c.code = cc) (hr : meth.sig.returnType = some ty) (hnar : narrow ty (.int v) = .int v) (hlocks : meth.locks = false) {r0 : Int32} (hv : v = r0) (hdg : decode cc pc = .ok (.ireturn, 1)) : W p l e R s m args below meth c s.heap [] cells slots (MQ below (vp_Si (fun r => r = r0)) args s cells slots (fun _ => False)) (F0 m pc ls [.int v]) := W.zret hexec hb hr hnar (fun t ht _ => ⟨v, rfl, hv, ht⟩) (fun q h => by cases h) hdg hlocks
theorem w_vret {S : Type} {post : S → Prop} {wn : S → va_W} {A : Nat → Prop} (hexec : p.tables.exec = Jvm.exec) (hb : c.code = cc) (hr : meth.sig.returnType = none) (hlocks : meth.locks = false) (u : S) (hpost : post u) (hP : va_P D cl (wn u) H) (hD : va_D A (wn u)) (hS : va_S A s.heap H locs) (hdg : decode cc pc = .ok (.return_, 1)) : W p l e R s m args below meth c H locs cells slots (MQ below (va_Qv post (fun u t => wB D cl A (wn u) t) A) args s cells slots A) (F0 m pc ls []) := W.vret hexec hb hr (fun t ht _ => ⟨⟨u, rfl, hpost, by rw [ht]; exact hP, hD⟩, hS.F ht⟩) hS.2.2 hdg hlocks
theorem w_iret {S : Type} {post : Int32 → S → Prop} {wn : S → va_W} {A : Nat → Prop} {v : Int32} (hexec : p.tables.exec = Jvm.exec) (hb : c.code = cc) (hr : meth.sig.returnType = some .int) (hlocks : meth.locks = false) (u : S) (hpost : post v u) (hP : va_P D cl (wn u) H) (hD : va_D A (wn u)) (hS : va_S A s.heap H locs) (hdg : decode cc pc = .ok (.ireturn, 1)) : W p l e R s m args below meth c H locs cells slots (MQ below (va_Qi post (fun u t => wB D cl A (wn u) t) A) args s cells slots A) (F0 m pc ls [.int v]) := W.iret hexec hb hr (fun t ht _ => ⟨⟨v, u, rfl, hpost, by rw [ht]; exact hP, hD⟩, hS.F ht⟩) hS.2.2 hdg hlocks
theorem w_zret {S : Type} {post : Int32 → S → Prop} {wn : S → va_W} {A : Nat → Prop} {v : Int32} {ty : FieldType} (hexec : p.tables.exec = Jvm.exec) (hb : c.code = cc) (hr : meth.sig.returnType = some ty) (hnar : narrow ty (.int v) = .int v) (hlocks : meth.locks = false) (u : S) (hpost : post v u) (hP : va_P D cl (wn u) H) (hD : va_D A (wn u)) (hS : va_S A s.heap H locs) (hdg : decode cc pc = .ok (.ireturn, 1)) : W p l e R s m args below meth c H locs cells slots (MQ below (va_Qi post (fun u t => wB D cl A (wn u) t) A) args s cells slots A) (F0 m pc ls [.int v]) := W.zret hexec hb hr hnar (fun t ht _ => ⟨⟨v, u, rfl, hpost, by rw [ht]; exact hP, hD⟩, hS.F ht⟩) hS.2.2 hdg hlocks
theorem w_aret {S : Type} {post : S → Prop} {wn : S → va_W} {ra : S → Nat} {A : Nat → Prop} {rt : FieldType} (hexec : p.tables.exec = Jvm.exec) (hb : c.code = cc) (hr : meth.sig.returnType = some rt) (hrt : (∃ n, rt = .object n) ∨ ∃ t, rt = .array t) (hlocks : meth.locks = false) (u : S) (hpost : post u) (hP : va_P D cl (wn u) H) (hD : va_D A (wn u)) (hS : va_S A s.heap H locs) (hdg : decode cc pc = .ok (.areturn, 1)) : W p l e R s m args below meth c H locs cells slots (MQ below (va_Qr post (fun u b t => b = ra u ∧ wB D cl A (wn u) t) A) args s cells slots A) (F0 m pc ls [.ref (ra u)]) := W.aret hexec hb hr hrt (Or.inr ⟨_, rfl⟩) (fun t ht _ => ⟨⟨u, ra u, rfl, hpost, rfl, by rw [ht]; exact hP, hD⟩, hS.F ht⟩) hS.2.2 hdg hlocks
variable {b : Addr} {A : Nat → Prop}
theorem z_iald (hexec : p.tables.exec = Jvm.exec) (hb : c.code = cc) (hK : va_K D cl tys s) (hP : va_P D cl ws H) (q0 t0 : Nat) {cA : ClassId} {n : Nat} {f : Int → Int} (ha : ws[q0]? = some (b, .inl (cA, n, .inl (aR f)))) (ht : tys[t0]? = some (cA, .int)) {k : Int} (h0 : 0 ≤ k) (h1 : k < (n : Int)) (hn : (n : Int) < 2147483648) (hdg : decode cc pc = .ok (.iaload, 1)) (kk : W p l e R s m args below meth c H locs cells slots Q (F0 m (pc + 1) ls (.int (iZ (f k)) :: rest))) : W p l e R s m args below meth c H locs cells slots Q (F0 m pc ls (.int (iZ k) :: .ref b :: rest)) :=
  va_iald hexec hb hK hP q0 t0 ha ht (iZ_in h0 h1 hn) hdg (by rw [aR_at f h0 (by omega)]; exact kk)
theorem z_iast (hexec : p.tables.exec = Jvm.exec) (hb : c.code = cc) (hK : va_K D cl tys s) (hP : va_P D cl ws H) (hD : va_D A ws) (hS : va_S A H0 H locs) (q0 t0 : Nat) {cA : ClassId} {n : Nat} {f : Int → Int} (ha : ws[q0]? = some (b, .inl (cA, n, .inl (aR f)))) (ht : tys[t0]? = some (cA, .int)) {k x : Int} (h0 : 0 ≤ k) (h1 : k < (n : Int)) (hn : (n : Int) < 2147483648) (hdg : decode cc pc = .ok (.iastore, 1)) {wf : va_W} (hw : ws.set q0 (b, .inl (cA, n, .inl (aR (sT f k x)))) = wf) (kk : ∀ (H1 : Heap) (locs1 : List Loc), va_P D cl wf H1 → va_D A wf → va_S A H0 H1 locs1 → W p l e R s m args below meth c H1 locs1 cells slots Q (F0 m (pc + 1) ls rest)) : W p l e R s m args below meth c H locs cells slots Q (F0 m pc ls (.int (iZ x) :: .int (iZ k) :: .ref b :: rest)) := by
  refine va_iast hexec hb hK hP hD hS q0 t0 ha ht (iZ_in h0 h1 hn) hdg (fun H1 locs1 hP1 hD1 hS1 => ?_)
  rw [aR_sT f x h0 (by omega), hw] at hP1 hD1
  exact kk H1 locs1 hP1 hD1 hS1
theorem z_alen (hexec : p.tables.exec = Jvm.exec) (hb : c.code = cc) (hK : va_K D cl tys s) (hP : va_P D cl ws H) (q0 t0 : Nat) {cA : ClassId} {x : vp_A} (ha : ws[q0]? = some (b, .inl (cA, x))) {ty : FieldType} (ht : tys[t0]? = some (cA, ty)) (hdg : decode cc pc = .ok (.arraylength, 1)) (kk : W p l e R s m args below meth c H locs cells slots Q (F0 m (pc + 1) ls (.int (iZ ((x.1 : Nat) : Int)) :: rest))) : W p l e R s m args below meth c H locs cells slots Q (F0 m pc ls (.ref b :: rest)) := va_alen hexec hb hK hP q0 t0 ha ht (iZ_n x.1) hdg kk
/-- a new int array, of the class that the world's arrays have -/
theorem z_newi (hexec : p.tables.exec = Jvm.exec) (hb : c.code = cc) (harr : (Cond.arrayClass .int).before args s = true) (hK : va_K D cl tys s) (t0 : Nat) {cA : ClassId} (ht : tys[t0]? = some (cA, .int)) (hP : va_P D cl ws H) (hD : va_D A ws) (hS : va_S A H0 H locs) (hA : ∀ q, H0.size ≤ q → A q)
    {n : Int} {N : Nat} (hn : n = (N : Int)) (hN : N ≤ 65536) (hcells : cells + 1 ≤ R.cells) (hslots : slots + N ≤ R.slots) (hdg : decode cc pc = .ok (.newarray .int, 2))
    (kk : ∀ (q : Nat) (H1 : Heap), va_P D cl (ws ++ [(q, .inl (cA, N, .inl (aR (fun _ => 0))))]) H1 → va_D A (ws ++ [(q, .inl (cA, N, .inl (aR (fun _ => 0))))]) → va_S A H0 H1 locs → W p l e R s m args below meth c H1 locs (cells + 1) (slots + N) Q (F0 m (pc + 2) ls (.ref q :: rest))) : W p l e R s m args below meth c H locs cells slots Q (F0 m pc ls (.int (iZ n) :: rest)) := by
  subst hn
  refine va_newa (atype := .int) (ty := .int) (N' := N) (a0 := (N, .inl (aR (fun _ => 0)))) hexec hb harr rfl hK hP hD hS hA (fun _ => rfl) ?_ ?_ ?_ hcells hslots hdg (fun q cA' H1 hK1 hP1 hD1 hS1 => ?_)
  · intro h
    have := (iZ_lt (a := (N : Int)) (b := 0) (by omega) (by omega)).mp h
    omega
  · rw [iZ_clamp (by omega) (by omega)]
    omega
  · show N * 4 ≤ 536870912
    omega
  · have e1 : s.vm.findClass ("[" ++ FieldType.int.toString) = some cA := (hK.2 t0 _ ht).2
    have e2 : s.vm.findClass ("[" ++ FieldType.int.toString) = some cA' := (hK1.2 tys.length (cA', .int) (by simp)).2
    have e3 : cA' = cA := Option.some.inj (e2.symm.trans e1)
    subst e3
    exact kk q H1 hP1 hD1 hS1
end WC
section WD
variable {p : Program} {l : Launch} {e : Env} {R : Room} {s : State} {m : MethodId} {args : Array Value} {below : List Frame} {meth : Method} {c : Code} {H : Heap} {locs : List Loc} {cells slots : Nat} {Q : State → Prop}
variable {cc : ByteArray} {pc : Nat} {ls : Array Slot} {rest st0 : List Value} {a : Array Value}
theorem w_rdr {r0 : Nat} (hr : va_Run p l e R s m args below meth c H locs cells slots 0 0 (F0 m pc ls st0) rest (va_Sr (fun k => k = r0) (fun k => .ref k) a) (fun _ => False)) (kk : W p l e R s m args below meth c H locs cells slots Q (F0 m (pc + 3) ls (.ref r0 :: rest))) : W p l e R s m args below meth c H locs cells slots Q (F0 m pc ls st0) := va_csr hr.run (fun k hk => by rw [hk]; exact kk)
theorem w_retr {v r0 : Nat} {rt : FieldType} (hexec : p.tables.exec = Jvm.exec) (hb : c.code = cc) (hr : meth.sig.returnType = some rt) (hrt : (∃ n, rt = .object n) ∨ ∃ t, rt = .array t) (hlocks : meth.locks = false) (hv : v = r0) (hdg : decode cc pc = .ok (.areturn, 1)) : W p l e R s m args below meth c s.heap [] cells slots (MQ below (va_Sr (fun k => k = r0) (fun k => .ref k)) args s cells slots (fun _ => False)) (F0 m pc ls [.ref v]) := W.aret hexec hb hr hrt (Or.inr ⟨_, rfl⟩) (fun t ht _ => ⟨v, rfl, hv, ht⟩) (fun q h => by cases h) hdg hlocks
end WD
