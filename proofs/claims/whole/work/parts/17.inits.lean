set_option maxHeartbeats 4000000 in
set_option maxRecDepth 100000 in
/-- Operator(): two rows of zeros -/
theorem c_Operator_init (l : Launch) (dC : Nat → ClassId) (dI : Nat → Nat → Nat) (cA : ClassId) (sz : Nat) (o : Nat) : Met l y_Opr_init w_Opr_init ({ frames := 2, cells := 4, slots := 10, locals := 41 }) (va_Pc [.ref o] (wP (dC, dI) vC [(cA, .int)] [(o, .inr (1, [.null, .null]))] sz)) (va_Qv (fun u : Nat × Nat × Nat × Nat => True) (fun (u : Nat × Nat × Nat × Nat) t => wB (dC, dI) vC (va_A [(o, .inr (1, [.null, .null]))] sz) [(o, .inr (1, [.ref u.1, .ref u.2.2.1])), (u.1, .inr (0, [.ref u.2.1])), (u.2.1, .inl (cA, 3, .inl (aR (fun _ => 0)))), (u.2.2.1, .inr (0, [.ref u.2.2.2])), (u.2.2.2, .inl (cA, 5, .inl (aR (fun _ => 0))))] t) (va_A [(o, .inr (1, [.null, .null]))] sz)) 4 10 (va_A [(o, .inr (1, [.null, .null]))] sz) := by
  refine Met.ofW (cc := b_Opr_init) (maxL := 1) (ret := (Option.none : Option Jvm.ClassFile.FieldType)) (by decide) rfl ?_
  intro p e s m args below meth c s₁ B hml hv
  obtain ⟨rfl, hsz, hP, hK, hD0⟩ := hv
  have hx := B.exec
  have hb := B.bytes
  have hr := B.returns
  have hts : ∀ w ∈ tT, w.before _ s = true := fun w h => atoms_spec (ws := w_Opr_init) B.pre w (List.mem_cons_of_mem _ h)
  have hown : s.vm.findClass "OrderTwoCases$Operator" = some m.cls := findClass_of_methodNamed B.named
  have hlocks := B.notSynchronized
  have hin : meth.name = "<init>" := (name_of_methodNamed B.named B.method).1
  subst hsz
  have hD := hD0.self (sz := s.heap.size)
  generalize hAe : va_A [(o, .inr (1, [.null, .null]))] s.heap.size = A at hD ⊢
  have hA : ∀ q : Nat, s.heap.size ≤ q → A q := fun q h => by rw [← hAe]; exact Or.inr h
  have hS : va_S A s.heap s.heap [] := va_S.rf
  have hl := lv_entry ([.ref o]) (n := 1) (Nat.le_of_ble_eq_true rfl)
  rw [lg_entry_eq]
  generalize (lg_sl ([.ref o]) ++ List.replicate (1 - (lg_sl ([.ref o])).length) Slot.unset).toArray = ls at hl ⊢
  have hl : lv_has ls 1 [(0, .ref o)] := hl
  refine lv_aload_n hx hb d_Opr_init_0 rfl (lv_at hl 0 rfl) ?_
  refine W.objInit hx hb hown (hts _ k_28) (hts _ k_21) (hts _ k_22) rfl (by rw [hml]; exact hl.1) rfl d_Opr_init_1 (Nat.le_of_ble_eq_true rfl) (Nat.le_of_ble_eq_true rfl) ?_
  refine W.eq (g2 := F0 m 4 ls []) rfl ?_
  refine lv_aload_n hx hb d_Opr_init_4 rfl (lv_at hl 0 rfl) ?_
  refine va_new (ci := 0) (fs := [.null]) (C := "OrderTwoCases$Row") (T := F_Row) (N := 1) hx hb hts la_Row t_Row tok_Row hown (hts _ k_29) (hts _ k_30) (hts _ k_3) hK hP hD hS hA rfl (fun j hj => by rcases (show j = 0 by omega) with rfl <;> rfl) (Nat.le_of_ble_eq_true rfl) (Nat.le_of_ble_eq_true rfl) d_Opr_init_5 (fun q5 H hP hD hS => ?_)
  have hP : va_P (dC, dI) vC [(o, .inr (1, [.null, .null])), (q5, .inr (0, [.null]))] H := hP
  have hD : va_D A [(o, .inr (1, [.null, .null])), (q5, .inr (0, [.null]))] := hD
  refine W.widen (k := 1) (n := 1) (by decide) (by decide) ?_
  refine lv_dup hx hb d_Opr_init_8 rfl ?_
  refine lv_iconst (v := iZ (2)) hx hb d_Opr_init_9 rfl ?_
  refine w_callv (wn := fun (a10 : Nat) => [(q5, .inr (0, [.ref a10])), (a10, .inl (cA, 3, .inl (aR (fun _ => 0))))]) (wf := fun (a10 : Nat) => [(o, .inr (1, [.null, .null])), (q5, .inr (0, [.ref a10])), (a10, .inl (cA, 3, .inl (aR (fun _ => 0))))]) (wr := [(o, .inr (1, [.null, .null]))]) (va_runI (As := [.int (iZ (2))]) (rest := [.ref q5, .ref o]) ⟨hx, hb, hml, hown, hts⟩ (c_Row_init l dC dI cA H.size q5 2 (by decide)) (cwI 1 hts g_Opr_11 rfl rfl rfl (hts _ k_3) (hts _ k_31) (hts _ k_32) rfl (by decide +kernel) ⟨Nat.le_of_ble_eq_true rfl, Nat.le_of_ble_eq_true rfl⟩) (wP_preS hK hP hD [0] rfl [1] (by decide) rfl rfl) rfl rfl hl.1 rfl (lv_room (Nat.le_of_ble_eq_true rfl)) d_Opr_init_10 ⟨Nat.le_of_ble_eq_true rfl, Nat.le_of_ble_eq_true rfl⟩) hP hD hS hA [1] [0] [0, 1, 2] rfl rfl (by decide) (by decide) (by decide) (fun _ => rfl) (fun _ => rfl) (fun a10 H locs hw hP hD hS => ?_)
  have hP : va_P (dC, dI) vC [(o, .inr (1, [.null, .null])), (q5, .inr (0, [.ref a10])), (a10, .inl (cA, 3, .inl (aR (fun _ => 0))))] H := hP
  have hD : va_D A [(o, .inr (1, [.null, .null])), (q5, .inr (0, [.ref a10])), (a10, .inl (cA, 3, .inl (aR (fun _ => 0))))] := hD
  refine W.widen (k := 2) (n := 4) (by decide) (by decide) ?_
  refine va_putF (D := (dC, dI)) (ci := 1) (v := .ref q5) (ty := .object "OrderTwoCases$Row") (C := "OrderTwoCases$Operator") (T := F_Opr) (N := 2) hx hb hts la_Opr t_Opr tok_Opr nm_Opr hown hK hP hD hS 0 rfl rfl 0 (by decide) (hts _ k_40) (fun _ h9 => h9) rfl hin rfl (by decide +kernel) rfl rfl (Nat.le_of_ble_eq_true rfl) d_Opr_init_13 (fun H locs hP hD hS => ?_)
  have hP : va_P (dC, dI) vC [(o, .inr (1, [.ref q5, .null])), (q5, .inr (0, [.ref a10])), (a10, .inl (cA, 3, .inl (aR (fun _ => 0))))] H := hP
  have hD : va_D A [(o, .inr (1, [.ref q5, .null])), (q5, .inr (0, [.ref a10])), (a10, .inl (cA, 3, .inl (aR (fun _ => 0))))] := hD
  refine lv_aload_n hx hb d_Opr_init_16 rfl (lv_at hl 0 rfl) ?_
  refine va_new (ci := 0) (fs := [.null]) (C := "OrderTwoCases$Row") (T := F_Row) (N := 1) hx hb hts la_Row t_Row tok_Row hown (hts _ k_29) (hts _ k_30) (hts _ k_3) hK hP hD hS hA rfl (fun j hj => by rcases (show j = 0 by omega) with rfl <;> rfl) (Nat.le_of_ble_eq_true rfl) (Nat.le_of_ble_eq_true rfl) d_Opr_init_17 (fun q17 H hP hD hS => ?_)
  have hP : va_P (dC, dI) vC [(o, .inr (1, [.ref q5, .null])), (q5, .inr (0, [.ref a10])), (a10, .inl (cA, 3, .inl (aR (fun _ => 0)))), (q17, .inr (0, [.null]))] H := hP
  have hD : va_D A [(o, .inr (1, [.ref q5, .null])), (q5, .inr (0, [.ref a10])), (a10, .inl (cA, 3, .inl (aR (fun _ => 0)))), (q17, .inr (0, [.null]))] := hD
  refine W.widen (k := 3) (n := 5) (by decide) (by decide) ?_
  refine lv_dup hx hb d_Opr_init_20 rfl ?_
  refine lv_iconst (v := iZ (4)) hx hb d_Opr_init_21 rfl ?_
  refine w_callv (wn := fun (a22 : Nat) => [(q17, .inr (0, [.ref a22])), (a22, .inl (cA, 5, .inl (aR (fun _ => 0))))]) (wf := fun (a22 : Nat) => [(o, .inr (1, [.ref q5, .null])), (q5, .inr (0, [.ref a10])), (a10, .inl (cA, 3, .inl (aR (fun _ => 0)))), (q17, .inr (0, [.ref a22])), (a22, .inl (cA, 5, .inl (aR (fun _ => 0))))]) (wr := [(o, .inr (1, [.ref q5, .null])), (q5, .inr (0, [.ref a10])), (a10, .inl (cA, 3, .inl (aR (fun _ => 0))))]) (va_runI (As := [.int (iZ (4))]) (rest := [.ref q17, .ref o]) ⟨hx, hb, hml, hown, hts⟩ (c_Row_init l dC dI cA H.size q17 4 (by decide)) (cwI 1 hts g_Opr_11 rfl rfl rfl (hts _ k_3) (hts _ k_31) (hts _ k_32) rfl (by decide +kernel) ⟨Nat.le_of_ble_eq_true rfl, Nat.le_of_ble_eq_true rfl⟩) (wP_preS hK hP hD [0] rfl [3] (by decide) rfl rfl) rfl rfl hl.1 rfl (lv_room (Nat.le_of_ble_eq_true rfl)) d_Opr_init_22 ⟨Nat.le_of_ble_eq_true rfl, Nat.le_of_ble_eq_true rfl⟩) hP hD hS hA [3] [0, 1, 2] [0, 1, 2, 3, 4] rfl rfl (by decide) (by decide) (by decide) (fun _ => rfl) (fun _ => rfl) (fun a22 H locs hw hP hD hS => ?_)
  have hP : va_P (dC, dI) vC [(o, .inr (1, [.ref q5, .null])), (q5, .inr (0, [.ref a10])), (a10, .inl (cA, 3, .inl (aR (fun _ => 0)))), (q17, .inr (0, [.ref a22])), (a22, .inl (cA, 5, .inl (aR (fun _ => 0))))] H := hP
  have hD : va_D A [(o, .inr (1, [.ref q5, .null])), (q5, .inr (0, [.ref a10])), (a10, .inl (cA, 3, .inl (aR (fun _ => 0)))), (q17, .inr (0, [.ref a22])), (a22, .inl (cA, 5, .inl (aR (fun _ => 0))))] := hD
  refine W.widen (k := 4) (n := 10) (by decide) (by decide) ?_
  refine va_putF (D := (dC, dI)) (ci := 1) (v := .ref q17) (ty := .object "OrderTwoCases$Row") (C := "OrderTwoCases$Operator") (T := F_Opr) (N := 2) hx hb hts la_Opr t_Opr tok_Opr nm_Opr hown hK hP hD hS 0 rfl rfl 1 (by decide) (hts _ k_44) (fun _ h9 => h9) rfl hin rfl (by decide +kernel) rfl rfl (Nat.le_of_ble_eq_true rfl) d_Opr_init_25 (fun H locs hP hD hS => ?_)
  have hP : va_P (dC, dI) vC [(o, .inr (1, [.ref q5, .ref q17])), (q5, .inr (0, [.ref a10])), (a10, .inl (cA, 3, .inl (aR (fun _ => 0)))), (q17, .inr (0, [.ref a22])), (a22, .inl (cA, 5, .inl (aR (fun _ => 0))))] H := hP
  have hD : va_D A [(o, .inr (1, [.ref q5, .ref q17])), (q5, .inr (0, [.ref a10])), (a10, .inl (cA, 3, .inl (aR (fun _ => 0)))), (q17, .inr (0, [.ref a22])), (a22, .inl (cA, 5, .inl (aR (fun _ => 0))))] := hD
  exact w_vret (wn := fun (u : Nat × Nat × Nat × Nat) => [(o, .inr (1, [.ref u.1, .ref u.2.2.1])), (u.1, .inr (0, [.ref u.2.1])), (u.2.1, .inl (cA, 3, .inl (aR (fun _ => 0)))), (u.2.2.1, .inr (0, [.ref u.2.2.2])), (u.2.2.2, .inl (cA, 5, .inl (aR (fun _ => 0))))]) hx hb hr hlocks (q5, a10, q17, a22) trivial hP hD hS d_Opr_init_28

set_option maxHeartbeats 4000000 in
set_option maxRecDepth 100000 in
/-- Pair(): rows of zeros -/
theorem c_Pair_init (l : Launch) (dC : Nat → ClassId) (dI : Nat → Nat → Nat) (cA : ClassId) (sz : Nat) (q0 : Nat) : Met l y_Pai_init w_Pai_init ({ frames := 3, cells := 9, slots := 32, locals := 61 }) (va_Pc [.ref q0] (wPN (dC, dI) vC [(cA, .int)] [(q0, .inr (2, [.null, .null, .null]))] sz)) (va_Qv (fun u : Nat × Nat × Nat × Nat × Nat × Nat × Nat × Nat × Nat => True) (fun (u : Nat × Nat × Nat × Nat × Nat × Nat × Nat × Nat × Nat) t => wB (dC, dI) vC (va_A [(q0, .inr (2, [.null, .null, .null]))] sz) [(q0, .inr (2, [.ref u.1, .ref u.2.2.1, .ref u.2.2.2.2.1])), (u.1, .inr (0, [.ref u.2.1])), (u.2.1, .inl (cA, 3, .inl (aR (fun _ => 0)))), (u.2.2.1, .inr (0, [.ref u.2.2.2.1])), (u.2.2.2.1, .inl (cA, 13, .inl (aR (fun _ => 0)))), (u.2.2.2.2.1, .inr (1, [.ref u.2.2.2.2.2.1, .ref u.2.2.2.2.2.2.2.1])), (u.2.2.2.2.2.1, .inr (0, [.ref u.2.2.2.2.2.2.1])), (u.2.2.2.2.2.2.1, .inl (cA, 3, .inl (aR (fun _ => 0)))), (u.2.2.2.2.2.2.2.1, .inr (0, [.ref u.2.2.2.2.2.2.2.2])), (u.2.2.2.2.2.2.2.2, .inl (cA, 5, .inl (aR (fun _ => 0))))] t) (va_A [(q0, .inr (2, [.null, .null, .null]))] sz)) 9 32 (va_A [(q0, .inr (2, [.null, .null, .null]))] sz) := by
  refine Met.ofW (cc := b_Pai_init) (maxL := 1) (ret := (Option.none : Option Jvm.ClassFile.FieldType)) (by decide) rfl ?_
  intro p e s m args below meth c s₁ B hml hv
  obtain ⟨rfl, ⟨hsz, hP, hK, hD0⟩, hN⟩ := hv
  have hx := B.exec
  have hb := B.bytes
  have hr := B.returns
  have hts : ∀ w ∈ tT, w.before _ s = true := fun w h => atoms_spec (ws := w_Pai_init) B.pre w (List.mem_cons_of_mem _ h)
  have hown : s.vm.findClass "OrderTwoCases$Pair" = some m.cls := findClass_of_methodNamed B.named
  have hlocks := B.notSynchronized
  have hin : meth.name = "<init>" := (name_of_methodNamed B.named B.method).1
  subst hsz
  have hD := hD0.self (sz := s.heap.size)
  generalize hAe : va_A [(q0, .inr (2, [.null, .null, .null]))] s.heap.size = A at hD ⊢
  have hA : ∀ q : Nat, s.heap.size ≤ q → A q := fun q h => by rw [← hAe]; exact Or.inr h
  have hS : va_S A s.heap s.heap [] := va_S.rf
  have hl := lv_entry ([.ref q0]) (n := 1) (Nat.le_of_ble_eq_true rfl)
  rw [lg_entry_eq]
  generalize (lg_sl ([.ref q0]) ++ List.replicate (1 - (lg_sl ([.ref q0])).length) Slot.unset).toArray = ls at hl ⊢
  have hl : lv_has ls 1 [(0, .ref q0)] := hl
  refine lv_aload_n hx hb d_Pai_init_0 rfl (lv_at hl 0 rfl) ?_
  refine W.objInit hx hb hown (hts _ k_66) (hts _ k_21) (hts _ k_22) rfl (by rw [hml]; exact hl.1) rfl d_Pai_init_1 (Nat.le_of_ble_eq_true rfl) (Nat.le_of_ble_eq_true rfl) ?_
  refine W.eq (g2 := F0 m 4 ls []) rfl ?_
  refine lv_aload_n hx hb d_Pai_init_4 rfl (lv_at hl 0 rfl) ?_
  refine va_new (ci := 0) (fs := [.null]) (C := "OrderTwoCases$Row") (T := F_Row) (N := 1) hx hb hts la_Row t_Row tok_Row hown (hts _ k_67) (hts _ k_30) (hts _ k_3) hK hP hD hS hA rfl (fun j hj => by rcases (show j = 0 by omega) with rfl <;> rfl) (Nat.le_of_ble_eq_true rfl) (Nat.le_of_ble_eq_true rfl) d_Pai_init_5 (fun q5 H hP hD hS => ?_)
  have hP : va_P (dC, dI) vC [(q0, .inr (2, [.null, .null, .null])), (q5, .inr (0, [.null]))] H := hP
  have hD : va_D A [(q0, .inr (2, [.null, .null, .null])), (q5, .inr (0, [.null]))] := hD
  refine W.widen (k := 1) (n := 1) (by decide) (by decide) ?_
  refine lv_dup hx hb d_Pai_init_8 rfl ?_
  refine lv_iconst (v := iZ (2)) hx hb d_Pai_init_9 rfl ?_
  refine w_callv (wn := fun (a10 : Nat) => [(q5, .inr (0, [.ref a10])), (a10, .inl (cA, 3, .inl (aR (fun _ => 0))))]) (wf := fun (a10 : Nat) => [(q0, .inr (2, [.null, .null, .null])), (q5, .inr (0, [.ref a10])), (a10, .inl (cA, 3, .inl (aR (fun _ => 0))))]) (wr := [(q0, .inr (2, [.null, .null, .null]))]) (va_runI (As := [.int (iZ (2))]) (rest := [.ref q5, .ref q0]) ⟨hx, hb, hml, hown, hts⟩ (c_Row_init l dC dI cA H.size q5 2 (by decide)) (cwI 1 hts g_Pai_11 rfl rfl rfl (hts _ k_3) (hts _ k_68) (hts _ k_32) rfl (by decide +kernel) ⟨Nat.le_of_ble_eq_true rfl, Nat.le_of_ble_eq_true rfl⟩) (wP_preS hK hP hD [0] rfl [1] (by decide) rfl rfl) rfl rfl hl.1 rfl (lv_room (Nat.le_of_ble_eq_true rfl)) d_Pai_init_10 ⟨Nat.le_of_ble_eq_true rfl, Nat.le_of_ble_eq_true rfl⟩) hP hD hS hA [1] [0] [0, 1, 2] rfl rfl (by decide) (by decide) (by decide) (fun _ => rfl) (fun _ => rfl) (fun a10 H locs hw hP hD hS => ?_)
  have hP : va_P (dC, dI) vC [(q0, .inr (2, [.null, .null, .null])), (q5, .inr (0, [.ref a10])), (a10, .inl (cA, 3, .inl (aR (fun _ => 0))))] H := hP
  have hD : va_D A [(q0, .inr (2, [.null, .null, .null])), (q5, .inr (0, [.ref a10])), (a10, .inl (cA, 3, .inl (aR (fun _ => 0))))] := hD
  refine W.widen (k := 2) (n := 4) (by decide) (by decide) ?_
  refine va_putF (D := (dC, dI)) (ci := 2) (v := .ref q5) (ty := .object "OrderTwoCases$Row") (C := "OrderTwoCases$Pair") (T := F_Pai) (N := 3) hx hb hts la_Pai t_Pai tok_Pai nm_Pai hown hK hP hD hS 0 rfl rfl 0 (by decide) (hts _ k_71) (fun _ h9 => h9) rfl hin rfl (by decide +kernel) rfl rfl (Nat.le_of_ble_eq_true rfl) d_Pai_init_13 (fun H locs hP hD hS => ?_)
  have hP : va_P (dC, dI) vC [(q0, .inr (2, [.ref q5, .null, .null])), (q5, .inr (0, [.ref a10])), (a10, .inl (cA, 3, .inl (aR (fun _ => 0))))] H := hP
  have hD : va_D A [(q0, .inr (2, [.ref q5, .null, .null])), (q5, .inr (0, [.ref a10])), (a10, .inl (cA, 3, .inl (aR (fun _ => 0))))] := hD
  refine lv_aload_n hx hb d_Pai_init_16 rfl (lv_at hl 0 rfl) ?_
  refine va_new (ci := 0) (fs := [.null]) (C := "OrderTwoCases$Row") (T := F_Row) (N := 1) hx hb hts la_Row t_Row tok_Row hown (hts _ k_67) (hts _ k_30) (hts _ k_3) hK hP hD hS hA rfl (fun j hj => by rcases (show j = 0 by omega) with rfl <;> rfl) (Nat.le_of_ble_eq_true rfl) (Nat.le_of_ble_eq_true rfl) d_Pai_init_17 (fun q17 H hP hD hS => ?_)
  have hP : va_P (dC, dI) vC [(q0, .inr (2, [.ref q5, .null, .null])), (q5, .inr (0, [.ref a10])), (a10, .inl (cA, 3, .inl (aR (fun _ => 0)))), (q17, .inr (0, [.null]))] H := hP
  have hD : va_D A [(q0, .inr (2, [.ref q5, .null, .null])), (q5, .inr (0, [.ref a10])), (a10, .inl (cA, 3, .inl (aR (fun _ => 0)))), (q17, .inr (0, [.null]))] := hD
  refine W.widen (k := 3) (n := 5) (by decide) (by decide) ?_
  refine lv_dup hx hb d_Pai_init_20 rfl ?_
  refine lv_bipush (v := iZ (12)) hx hb d_Pai_init_21 (by decide +kernel) ?_
  refine w_callv (wn := fun (a23 : Nat) => [(q17, .inr (0, [.ref a23])), (a23, .inl (cA, 13, .inl (aR (fun _ => 0))))]) (wf := fun (a23 : Nat) => [(q0, .inr (2, [.ref q5, .null, .null])), (q5, .inr (0, [.ref a10])), (a10, .inl (cA, 3, .inl (aR (fun _ => 0)))), (q17, .inr (0, [.ref a23])), (a23, .inl (cA, 13, .inl (aR (fun _ => 0))))]) (wr := [(q0, .inr (2, [.ref q5, .null, .null])), (q5, .inr (0, [.ref a10])), (a10, .inl (cA, 3, .inl (aR (fun _ => 0))))]) (va_runI (As := [.int (iZ (12))]) (rest := [.ref q17, .ref q0]) ⟨hx, hb, hml, hown, hts⟩ (c_Row_init l dC dI cA H.size q17 12 (by decide)) (cwI 1 hts g_Pai_11 rfl rfl rfl (hts _ k_3) (hts _ k_68) (hts _ k_32) rfl (by decide +kernel) ⟨Nat.le_of_ble_eq_true rfl, Nat.le_of_ble_eq_true rfl⟩) (wP_preS hK hP hD [0] rfl [3] (by decide) rfl rfl) rfl rfl hl.1 rfl (lv_room (Nat.le_of_ble_eq_true rfl)) d_Pai_init_23 ⟨Nat.le_of_ble_eq_true rfl, Nat.le_of_ble_eq_true rfl⟩) hP hD hS hA [3] [0, 1, 2] [0, 1, 2, 3, 4] rfl rfl (by decide) (by decide) (by decide) (fun _ => rfl) (fun _ => rfl) (fun a23 H locs hw hP hD hS => ?_)
  have hP : va_P (dC, dI) vC [(q0, .inr (2, [.ref q5, .null, .null])), (q5, .inr (0, [.ref a10])), (a10, .inl (cA, 3, .inl (aR (fun _ => 0)))), (q17, .inr (0, [.ref a23])), (a23, .inl (cA, 13, .inl (aR (fun _ => 0))))] H := hP
  have hD : va_D A [(q0, .inr (2, [.ref q5, .null, .null])), (q5, .inr (0, [.ref a10])), (a10, .inl (cA, 3, .inl (aR (fun _ => 0)))), (q17, .inr (0, [.ref a23])), (a23, .inl (cA, 13, .inl (aR (fun _ => 0))))] := hD
  refine W.widen (k := 4) (n := 18) (by decide) (by decide) ?_
  refine va_putF (D := (dC, dI)) (ci := 2) (v := .ref q17) (ty := .object "OrderTwoCases$Row") (C := "OrderTwoCases$Pair") (T := F_Pai) (N := 3) hx hb hts la_Pai t_Pai tok_Pai nm_Pai hown hK hP hD hS 0 rfl rfl 1 (by decide) (hts _ k_73) (fun _ h9 => h9) rfl hin rfl (by decide +kernel) rfl rfl (Nat.le_of_ble_eq_true rfl) d_Pai_init_26 (fun H locs hP hD hS => ?_)
  have hP : va_P (dC, dI) vC [(q0, .inr (2, [.ref q5, .ref q17, .null])), (q5, .inr (0, [.ref a10])), (a10, .inl (cA, 3, .inl (aR (fun _ => 0)))), (q17, .inr (0, [.ref a23])), (a23, .inl (cA, 13, .inl (aR (fun _ => 0))))] H := hP
  have hD : va_D A [(q0, .inr (2, [.ref q5, .ref q17, .null])), (q5, .inr (0, [.ref a10])), (a10, .inl (cA, 3, .inl (aR (fun _ => 0)))), (q17, .inr (0, [.ref a23])), (a23, .inl (cA, 13, .inl (aR (fun _ => 0))))] := hD
  refine lv_aload_n hx hb d_Pai_init_29 rfl (lv_at hl 0 rfl) ?_
  refine va_new (ci := 1) (fs := [.null, .null]) (C := "OrderTwoCases$Operator") (T := F_Opr) (N := 2) hx hb hts la_Opr t_Opr tok_Opr hown (hts _ k_69) (hts _ k_24) (hts _ k_2) hK hP hD hS hA rfl (fun j hj => by rcases (show j = 0 ∨ j = 1 by omega) with rfl | rfl <;> rfl) (Nat.le_of_ble_eq_true rfl) (Nat.le_of_ble_eq_true rfl) d_Pai_init_30 (fun q30 H hP hD hS => ?_)
  have hP : va_P (dC, dI) vC [(q0, .inr (2, [.ref q5, .ref q17, .null])), (q5, .inr (0, [.ref a10])), (a10, .inl (cA, 3, .inl (aR (fun _ => 0)))), (q17, .inr (0, [.ref a23])), (a23, .inl (cA, 13, .inl (aR (fun _ => 0)))), (q30, .inr (1, [.null, .null]))] H := hP
  have hD : va_D A [(q0, .inr (2, [.ref q5, .ref q17, .null])), (q5, .inr (0, [.ref a10])), (a10, .inl (cA, 3, .inl (aR (fun _ => 0)))), (q17, .inr (0, [.ref a23])), (a23, .inl (cA, 13, .inl (aR (fun _ => 0)))), (q30, .inr (1, [.null, .null]))] := hD
  refine W.widen (k := 5) (n := 20) (by decide) (by decide) ?_
  refine lv_dup hx hb d_Pai_init_33 rfl ?_
  refine w_callv (wn := fun (u : Nat × Nat × Nat × Nat) => [(q30, .inr (1, [.ref u.1, .ref u.2.2.1])), (u.1, .inr (0, [.ref u.2.1])), (u.2.1, .inl (cA, 3, .inl (aR (fun _ => 0)))), (u.2.2.1, .inr (0, [.ref u.2.2.2])), (u.2.2.2, .inl (cA, 5, .inl (aR (fun _ => 0))))]) (wf := fun (u : Nat × Nat × Nat × Nat) => [(q0, .inr (2, [.ref q5, .ref q17, .null])), (q5, .inr (0, [.ref a10])), (a10, .inl (cA, 3, .inl (aR (fun _ => 0)))), (q17, .inr (0, [.ref a23])), (a23, .inl (cA, 13, .inl (aR (fun _ => 0)))), (q30, .inr (1, [.ref u.1, .ref u.2.2.1])), (u.1, .inr (0, [.ref u.2.1])), (u.2.1, .inl (cA, 3, .inl (aR (fun _ => 0)))), (u.2.2.1, .inr (0, [.ref u.2.2.2])), (u.2.2.2, .inl (cA, 5, .inl (aR (fun _ => 0))))]) (wr := [(q0, .inr (2, [.ref q5, .ref q17, .null])), (q5, .inr (0, [.ref a10])), (a10, .inl (cA, 3, .inl (aR (fun _ => 0)))), (q17, .inr (0, [.ref a23])), (a23, .inl (cA, 13, .inl (aR (fun _ => 0))))]) (va_runIN (As := []) (rest := [.ref q30, .ref q0]) ⟨hx, hb, hml, hown, hts⟩ (c_Operator_init l dC dI cA H.size q30) ⟨va_cnB 0 hts g_Pai_25 rfl rfl rfl (hN _ (List.mem_of_getElem? (i := 3) rfl)) (hts _ k_2) (by decide +kernel) ⟨Nat.le_of_ble_eq_true rfl, Nat.le_of_ble_eq_true rfl⟩, rfl, hts _ k_26⟩ (wP_preS hK hP hD [0] rfl [5] (by decide) rfl rfl) rfl rfl hl.1 rfl (lv_room (Nat.le_of_ble_eq_true rfl)) d_Pai_init_34 ⟨Nat.le_of_ble_eq_true rfl, Nat.le_of_ble_eq_true rfl⟩) hP hD hS hA [5] [0, 1, 2, 3, 4] [0, 1, 2, 3, 4, 5, 6, 7, 8, 9] rfl rfl (by decide) (by decide) (by decide) (fun _ => rfl) (fun _ => rfl) (fun u H locs hw hP hD hS => ?_)
  obtain ⟨r1, r2, r3, r4⟩ := u
  have hP : va_P (dC, dI) vC [(q0, .inr (2, [.ref q5, .ref q17, .null])), (q5, .inr (0, [.ref a10])), (a10, .inl (cA, 3, .inl (aR (fun _ => 0)))), (q17, .inr (0, [.ref a23])), (a23, .inl (cA, 13, .inl (aR (fun _ => 0)))), (q30, .inr (1, [.ref r1, .ref r3])), (r1, .inr (0, [.ref r2])), (r2, .inl (cA, 3, .inl (aR (fun _ => 0)))), (r3, .inr (0, [.ref r4])), (r4, .inl (cA, 5, .inl (aR (fun _ => 0))))] H := hP
  have hD : va_D A [(q0, .inr (2, [.ref q5, .ref q17, .null])), (q5, .inr (0, [.ref a10])), (a10, .inl (cA, 3, .inl (aR (fun _ => 0)))), (q17, .inr (0, [.ref a23])), (a23, .inl (cA, 13, .inl (aR (fun _ => 0)))), (q30, .inr (1, [.ref r1, .ref r3])), (r1, .inr (0, [.ref r2])), (r2, .inl (cA, 3, .inl (aR (fun _ => 0)))), (r3, .inr (0, [.ref r4])), (r4, .inl (cA, 5, .inl (aR (fun _ => 0))))] := hD
  refine W.widen (k := 9) (n := 30) (by decide) (by decide) ?_
  refine va_putF (D := (dC, dI)) (ci := 2) (v := .ref q30) (ty := .object "OrderTwoCases$Operator") (C := "OrderTwoCases$Pair") (T := F_Pai) (N := 3) hx hb hts la_Pai t_Pai tok_Pai nm_Pai hown hK hP hD hS 0 rfl rfl 2 (by decide) (hts _ k_75) (fun _ h9 => h9) rfl hin rfl (by decide +kernel) rfl rfl (Nat.le_of_ble_eq_true rfl) d_Pai_init_37 (fun H locs hP hD hS => ?_)
  have hP : va_P (dC, dI) vC [(q0, .inr (2, [.ref q5, .ref q17, .ref q30])), (q5, .inr (0, [.ref a10])), (a10, .inl (cA, 3, .inl (aR (fun _ => 0)))), (q17, .inr (0, [.ref a23])), (a23, .inl (cA, 13, .inl (aR (fun _ => 0)))), (q30, .inr (1, [.ref r1, .ref r3])), (r1, .inr (0, [.ref r2])), (r2, .inl (cA, 3, .inl (aR (fun _ => 0)))), (r3, .inr (0, [.ref r4])), (r4, .inl (cA, 5, .inl (aR (fun _ => 0))))] H := hP
  have hD : va_D A [(q0, .inr (2, [.ref q5, .ref q17, .ref q30])), (q5, .inr (0, [.ref a10])), (a10, .inl (cA, 3, .inl (aR (fun _ => 0)))), (q17, .inr (0, [.ref a23])), (a23, .inl (cA, 13, .inl (aR (fun _ => 0)))), (q30, .inr (1, [.ref r1, .ref r3])), (r1, .inr (0, [.ref r2])), (r2, .inl (cA, 3, .inl (aR (fun _ => 0)))), (r3, .inr (0, [.ref r4])), (r4, .inl (cA, 5, .inl (aR (fun _ => 0))))] := hD
  exact w_vret (wn := fun (u : Nat × Nat × Nat × Nat × Nat × Nat × Nat × Nat × Nat) => [(q0, .inr (2, [.ref u.1, .ref u.2.2.1, .ref u.2.2.2.2.1])), (u.1, .inr (0, [.ref u.2.1])), (u.2.1, .inl (cA, 3, .inl (aR (fun _ => 0)))), (u.2.2.1, .inr (0, [.ref u.2.2.2.1])), (u.2.2.2.1, .inl (cA, 13, .inl (aR (fun _ => 0)))), (u.2.2.2.2.1, .inr (1, [.ref u.2.2.2.2.2.1, .ref u.2.2.2.2.2.2.2.1])), (u.2.2.2.2.2.1, .inr (0, [.ref u.2.2.2.2.2.2.1])), (u.2.2.2.2.2.2.1, .inl (cA, 3, .inl (aR (fun _ => 0)))), (u.2.2.2.2.2.2.2.1, .inr (0, [.ref u.2.2.2.2.2.2.2.2])), (u.2.2.2.2.2.2.2.2, .inl (cA, 5, .inl (aR (fun _ => 0))))]) hx hb hr hlocks (q5, a10, q17, a23, q30, r1, r2, r3, r4) trivial hP hD hS d_Pai_init_40
