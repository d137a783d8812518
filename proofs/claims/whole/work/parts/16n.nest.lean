/-! NEST: links to private constructors of nest mates -/
def nL : List Cond := [(Jvm.Cond.methodLinkNest "OrderTwoCases" (9 : Nat) ({ cls := "OrderTwoCases$Operator", name := "<init>", desc := "()V" } : Jvm.MethodName) "OrderTwoCases"), (Jvm.Cond.methodLinkNest "OrderTwoCases" (18 : Nat) ({ cls := "OrderTwoCases$Study", name := "<init>", desc := "()V" } : Jvm.MethodName) "OrderTwoCases"), (Jvm.Cond.methodLinkNest "OrderTwoCases$Study" (38 : Nat) ({ cls := "OrderTwoCases$Pair", name := "<init>", desc := "()V" } : Jvm.MethodName) "OrderTwoCases"), (Jvm.Cond.methodLinkNest "OrderTwoCases$Pair" (25 : Nat) ({ cls := "OrderTwoCases$Operator", name := "<init>", desc := "()V" } : Jvm.MethodName) "OrderTwoCases"), (Jvm.Cond.methodLinkNest "OrderTwoCases" (25 : Nat) ({ cls := "OrderTwoCases$Pair", name := "<init>", desc := "()V" } : Jvm.MethodName) "OrderTwoCases")]
def wN (U : State) : Prop := ∀ w ∈ nL, va_Nw w U
theorem nL_on : ∀ w ∈ nL, w.onTables = true := by decide +kernel
theorem wN.warm {s U : State} (hW : s.WarmedH U.vm) (h : wN s) : wN U := by
  intro w hw
  have h1 := h w hw
  simp only [nL, List.mem_cons, List.not_mem_nil, or_false] at hw
  rcases hw with rfl | rfl | rfl | rfl | rfl <;> exact va_Nw.warmM hW h1
theorem wN.same {s U : State} (hv : s.vm = U.vm) (h : wN s) : wN U := fun w hw => va_Nw.same (nL_on w hw) hv (h w hw)
def wPN (D : va_G) (cl : List vw_C) (tys : List (ClassId × FieldType)) (ws : va_W) (sz : Nat) (U : State) : Prop := wP D cl tys ws sz U ∧ wN U
theorem wPN_blind {av : List Value} {D : va_G} {cl : List vw_C} {tys : List (ClassId × FieldType)} {ws : va_W} {sz : Nat} : FrameBlind (va_Pc av (wPN D cl tys ws sz)) := fun a U g mk q => by
  obtain ⟨q0, ⟨q1, qP, qK, qD⟩, qN⟩ := q
  exact ⟨q0, ⟨q1, qP, va_K.moved (u := U) (U := U.calling g mk a) (Vm.Alike.refl U.vm) qK, qD⟩, wN.same (s := U) (U := U.calling g mk a) rfl qN⟩
theorem wPN_preS {s : State} {H : Heap} {As : List Value} {D : va_G} {cl : List vw_C} {tys tys0 : List (ClassId × FieldType)} {ws ws0 : va_W} {A : Nat → Prop} (hK : va_K D cl tys0 s) (hP : va_P D cl ws0 H) (hD : va_D A ws0) (hN : wN s) (isK : List Nat) (hk : isK.filterMap (fun i => tys0[i]?) = tys) (isP : List Nat) (hn : va_nd isP = true) (hp : isP.filterMap (fun i => ws0[i]?) = ws) (hp2 : isP.map (fun i => ws0[i]?) = ws.map some) : PreS s H (va_Pc As (wPN D cl tys ws H.size)) As :=
  ⟨wPN_blind, fun U hU hW => ⟨rfl, ⟨by rw [hU], by rw [hU]; exact hP.sub isP hp, va_K.moved hW.alike (hK.sub isK hk), (hD.sub isP hn hp2).weaken (fun _ _ _ _ => trivial)⟩, hN.warm hW⟩⟩
