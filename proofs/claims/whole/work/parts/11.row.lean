set_option maxHeartbeats 4000000 in
set_option maxRecDepth 100000 in
/-- Row.has(k) -/
theorem c_has (l : Launch) (dC : Nat → ClassId) (dI : Nat → Nat → Nat) (cA : ClassId) (h a n : Nat) (f : Int → Int) (hn : (n : Int) ≤ 41) (k : Int) (hk : -2147483648 ≤ k ∧ k < 2147483648) : Met l y_Row_has w_Row_has ({ frames := 0, cells := 0, slots := 0, locals := 0 }) (va_Pc [.ref h, .int (iZ (k))] (wR (dC, dI) vC [(cA, .int)] [(h, .inr (0, [.ref a])), (a, .inl (cA, n, .inl (aR f)))])) (vp_Si (fun r => r = iZ (if 0 ≤ k ∧ k < (n : Int) then 1 else 0))) 0 0 (fun _ => False) := by
  refine Met.ofW (cc := b_Row_has) (maxL := 2) (ret := (Option.some Jvm.ClassFile.FieldType.boolean)) (by decide) rfl ?_
  intro p e s m args below meth c s₁ B hml hv
  obtain ⟨rfl, hP, hK⟩ := hv
  have hx := B.exec
  have hb := B.bytes
  have hr := B.returns
  have hts : ∀ w ∈ tT, w.before _ s = true := fun w h => atoms_spec (ws := w_Row_has) B.pre w (List.mem_cons_of_mem _ h)
  have hown : s.vm.findClass "OrderTwoCases$Row" = some m.cls := findClass_of_methodNamed B.named
  have hlocks := B.notSynchronized
  have hl := lv_entry ([.ref h, .int (iZ (k))]) (n := 2) (Nat.le_of_ble_eq_true rfl)
  rw [lg_entry_eq]
  generalize (lg_sl ([.ref h, .int (iZ (k))]) ++ List.replicate (2 - (lg_sl ([.ref h, .int (iZ (k))])).length) Slot.unset).toArray = ls at hl ⊢
  have hl : lv_has ls 2 [(0, .ref h), (1, .int (iZ (k)))] := hl
  refine lv_iload_n hx hb d_Row_has_0 rfl (lv_at hl 1 rfl) ?_
  refine z_if_lt (tgt := 17) hx hb d_Row_has_1 (by decide) (by omega) (fun c_1 => ?_) (fun c_1 => ?_)
  · refine lv_iconst (v := iZ (0)) hx hb d_Row_has_17 rfl ?_
    exact w_retz hx hb hr rfl hlocks (by rw [if_neg (by omega)]) d_Row_has_18
  · refine lv_iload_n hx hb d_Row_has_4 rfl (lv_at hl 1 rfl) ?_
    refine lv_aload_n hx hb d_Row_has_5 rfl (lv_at hl 0 rfl) ?_
    refine va_get (D := (dC, dI)) (ci := 0) (v := .ref a) (C := "OrderTwoCases$Row") (T := F_Row) (N := 1) hx hb hts la_Row hown hK hP 0 rfl rfl 0 (by decide) (hts _ k_35) (fun _ h9 => h9) rfl d_Row_has_6 ?_
    refine z_alen hx hb hK hP 1 0 rfl rfl d_Row_has_9 ?_
    refine z_icmp_ge (tgt := 17) hx hb d_Row_has_10 (by decide) (by omega) (by omega) (fun c_10 => ?_) (fun c_10 => ?_)
    · refine lv_iconst (v := iZ (0)) hx hb d_Row_has_17 rfl ?_
      exact w_retz hx hb hr rfl hlocks (by rw [if_neg (by omega)]) d_Row_has_18
    · refine lv_iconst (v := iZ (1)) hx hb d_Row_has_13 rfl ?_
      refine lv_goto (tgt := 18) hx hb d_Row_has_14 (by decide) ?_
      exact w_retz hx hb hr rfl hlocks (by rw [if_pos (by omega)]) d_Row_has_18

set_option maxHeartbeats 4000000 in
set_option maxRecDepth 100000 in
/-- Row.get(k) -/
theorem c_get (l : Launch) (dC : Nat → ClassId) (dI : Nat → Nat → Nat) (cA : ClassId) (h a n : Nat) (f : Int → Int) (hn : (n : Int) ≤ 41) (hf : RoW n f) (k : Int) (hk : -2147483648 ≤ k ∧ k < 2147483648) : Met l y_Row_get w_Row_get ({ frames := 0, cells := 0, slots := 0, locals := 0 }) (va_Pc [.ref h, .int (iZ (k))] (wR (dC, dI) vC [(cA, .int)] [(h, .inr (0, [.ref a])), (a, .inl (cA, n, .inl (aR f)))])) (vp_Si (fun r => r = iZ (f k))) 0 0 (fun _ => False) := by
  refine Met.ofW (cc := b_Row_get) (maxL := 2) (ret := (Option.some Jvm.ClassFile.FieldType.int)) (by decide) rfl ?_
  intro p e s m args below meth c s₁ B hml hv
  obtain ⟨rfl, hP, hK⟩ := hv
  have hx := B.exec
  have hb := B.bytes
  have hr := B.returns
  have hts : ∀ w ∈ tT, w.before _ s = true := fun w h => atoms_spec (ws := w_Row_get) B.pre w (List.mem_cons_of_mem _ h)
  have hown : s.vm.findClass "OrderTwoCases$Row" = some m.cls := findClass_of_methodNamed B.named
  have hlocks := B.notSynchronized
  have hl := lv_entry ([.ref h, .int (iZ (k))]) (n := 2) (Nat.le_of_ble_eq_true rfl)
  rw [lg_entry_eq]
  generalize (lg_sl ([.ref h, .int (iZ (k))]) ++ List.replicate (2 - (lg_sl ([.ref h, .int (iZ (k))])).length) Slot.unset).toArray = ls at hl ⊢
  have hl : lv_has ls 2 [(0, .ref h), (1, .int (iZ (k)))] := hl
  refine lv_iload_n hx hb d_Row_get_0 rfl (lv_at hl 1 rfl) ?_
  refine z_if_lt (tgt := 22) hx hb d_Row_get_1 (by decide) (by omega) (fun c_1 => ?_) (fun c_1 => ?_)
  · refine lv_iconst (v := iZ (0)) hx hb d_Row_get_22 rfl ?_
    exact w_reti hx hb hr hlocks (by rw [hf.z (by omega)]) d_Row_get_23
  · refine lv_iload_n hx hb d_Row_get_4 rfl (lv_at hl 1 rfl) ?_
    refine lv_aload_n hx hb d_Row_get_5 rfl (lv_at hl 0 rfl) ?_
    refine va_get (D := (dC, dI)) (ci := 0) (v := .ref a) (C := "OrderTwoCases$Row") (T := F_Row) (N := 1) hx hb hts la_Row hown hK hP 0 rfl rfl 0 (by decide) (hts _ k_35) (fun _ h9 => h9) rfl d_Row_get_6 ?_
    refine z_alen hx hb hK hP 1 0 rfl rfl d_Row_get_9 ?_
    refine z_icmp_ge (tgt := 22) hx hb d_Row_get_10 (by decide) (by omega) (by omega) (fun c_10 => ?_) (fun c_10 => ?_)
    · refine lv_iconst (v := iZ (0)) hx hb d_Row_get_22 rfl ?_
      exact w_reti hx hb hr hlocks (by rw [hf.z (by omega)]) d_Row_get_23
    · refine lv_aload_n hx hb d_Row_get_13 rfl (lv_at hl 0 rfl) ?_
      refine va_get (D := (dC, dI)) (ci := 0) (v := .ref a) (C := "OrderTwoCases$Row") (T := F_Row) (N := 1) hx hb hts la_Row hown hK hP 0 rfl rfl 0 (by decide) (hts _ k_35) (fun _ h9 => h9) rfl d_Row_get_14 ?_
      refine lv_iload_n hx hb d_Row_get_17 rfl (lv_at hl 1 rfl) ?_
      refine z_iald hx hb hK hP 1 0 rfl rfl (by omega) (by omega) (by omega) d_Row_get_18 ?_
      refine lv_goto (tgt := 23) hx hb d_Row_get_19 (by decide) ?_
      exact w_reti hx hb hr hlocks rfl d_Row_get_23

set_option maxHeartbeats 4000000 in
set_option maxRecDepth 100000 in
/-- Row.set(k, v) -/
theorem c_set (l : Launch) (dC : Nat → ClassId) (dI : Nat → Nat → Nat) (cA : ClassId) (sz : Nat) (h a n : Nat) (f : Int → Int) (hn : (n : Int) ≤ 41) (k v : Int) (hk : -2147483648 ≤ k ∧ k < 2147483648) (hv : -9223372036854775808 ≤ v ∧ v < 9223372036854775808) : Met l y_Row_set w_Row_set ({ frames := 1, cells := 0, slots := 0, locals := 22 }) (va_Pc [.ref h, .int (iZ (k)), .long (lZ (v))] (wP (dC, dI) vC [(cA, .int)] [(h, .inr (0, [.ref a])), (a, .inl (cA, n, .inl (aR f)))] sz)) (va_Qv (fun _u : Unit => True) (fun (_u : Unit) t => wB (dC, dI) vC (va_A [(h, .inr (0, [.ref a])), (a, .inl (cA, n, .inl (aR f)))] sz) [(h, .inr (0, [.ref a])), (a, .inl (cA, n, .inl (aR (rset n f k (md v)))))] t) (va_A [(h, .inr (0, [.ref a])), (a, .inl (cA, n, .inl (aR f)))] sz)) 0 0 (va_A [(h, .inr (0, [.ref a])), (a, .inl (cA, n, .inl (aR f)))] sz) := by
  refine Met.ofW (cc := b_Row_set) (maxL := 4) (ret := (Option.none : Option Jvm.ClassFile.FieldType)) (by decide) rfl ?_
  intro p e s m args below meth c s₁ B hml hv
  obtain ⟨rfl, hsz, hP, hK, hD0⟩ := hv
  have hx := B.exec
  have hb := B.bytes
  have hr := B.returns
  have hts : ∀ w ∈ tT, w.before _ s = true := fun w h => atoms_spec (ws := w_Row_set) B.pre w (List.mem_cons_of_mem _ h)
  have hown : s.vm.findClass "OrderTwoCases$Row" = some m.cls := findClass_of_methodNamed B.named
  have hlocks := B.notSynchronized
  subst hsz
  have hD := hD0.self (sz := s.heap.size)
  generalize hAe : va_A [(h, .inr (0, [.ref a])), (a, .inl (cA, n, .inl (aR f)))] s.heap.size = A at hD ⊢
  have hA : ∀ q : Nat, s.heap.size ≤ q → A q := fun q h => by rw [← hAe]; exact Or.inr h
  have hS : va_S A s.heap s.heap [] := va_S.rf
  have hl := lv_entry ([.ref h, .int (iZ (k)), .long (lZ (v))]) (n := 4) (Nat.le_of_ble_eq_true rfl)
  rw [lg_entry_eq]
  generalize (lg_sl ([.ref h, .int (iZ (k)), .long (lZ (v))]) ++ List.replicate (4 - (lg_sl ([.ref h, .int (iZ (k)), .long (lZ (v))])).length) Slot.unset).toArray = ls at hl ⊢
  have hl : lv_has ls 4 [(0, .ref h), (1, .int (iZ (k))), (2, .long (lZ (v)))] := hl
  refine lv_iload_n hx hb d_Row_set_0 rfl (lv_at hl 1 rfl) ?_
  refine z_if_lt (tgt := 23) hx hb d_Row_set_1 (by decide) (by omega) (fun c_1 => ?_) (fun c_1 => ?_)
  · exact w_vret (wn := fun _ => [(h, .inr (0, [.ref a])), (a, .inl (cA, n, .inl (aR (rset n f k (md v)))))]) hx hb hr hlocks () trivial (by rw [rset_out (by omega)]; exact hP) (by rw [rset_out (by omega)]; exact hD) hS d_Row_set_23
  · refine lv_iload_n hx hb d_Row_set_4 rfl (lv_at hl 1 rfl) ?_
    refine lv_aload_n hx hb d_Row_set_5 rfl (lv_at hl 0 rfl) ?_
    refine va_get (D := (dC, dI)) (ci := 0) (v := .ref a) (C := "OrderTwoCases$Row") (T := F_Row) (N := 1) hx hb hts la_Row hown hK hP 0 rfl rfl 0 (by decide) (hts _ k_35) (fun _ h9 => h9) rfl d_Row_set_6 ?_
    refine z_alen hx hb hK hP 1 0 rfl rfl d_Row_set_9 ?_
    refine z_icmp_ge (tgt := 23) hx hb d_Row_set_10 (by decide) (by omega) (by omega) (fun c_10 => ?_) (fun c_10 => ?_)
    · exact w_vret (wn := fun _ => [(h, .inr (0, [.ref a])), (a, .inl (cA, n, .inl (aR (rset n f k (md v)))))]) hx hb hr hlocks () trivial (by rw [rset_out (by omega)]; exact hP) (by rw [rset_out (by omega)]; exact hD) hS d_Row_set_23
    · refine lv_aload_n hx hb d_Row_set_13 rfl (lv_at hl 0 rfl) ?_
      refine va_get (D := (dC, dI)) (ci := 0) (v := .ref a) (C := "OrderTwoCases$Row") (T := F_Row) (N := 1) hx hb hts la_Row hown hK hP 0 rfl rfl 0 (by decide) (hts _ k_35) (fun _ h9 => h9) rfl d_Row_set_14 ?_
      refine lv_iload_n hx hb d_Row_set_17 rfl (lv_at hl 1 rfl) ?_
      refine lv_lload_n hx hb d_Row_set_18 rfl (lv_at hl 2 rfl) ?_
      refine w_rdi (va_runS (As := [.long (lZ (v))]) (rest := [.int (iZ (k)), .ref a]) ⟨hx, hb, hml, hown, hts⟩ (c_of l v hv) (va_cwS 1 hts g_Row_15 rfl rfl rfl (by decide +kernel) ⟨Nat.le_of_ble_eq_true rfl, Nat.le_of_ble_eq_true rfl⟩) preEq rfl rfl hl.1 rfl (lv_room (Nat.le_of_ble_eq_true rfl)) d_Row_set_19 ⟨Nat.le_of_ble_eq_true rfl, Nat.le_of_ble_eq_true rfl⟩) ?_
      refine z_iast (wf := [(h, .inr (0, [.ref a])), (a, .inl (cA, n, .inl (aR (sT f k (md v)))))]) hx hb hK hP hD hS 1 0 rfl rfl (by omega) (by omega) (by omega) d_Row_set_22 rfl (fun H locs hP hD hS => ?_)
      exact w_vret (wn := fun _ => [(h, .inr (0, [.ref a])), (a, .inl (cA, n, .inl (aR (rset n f k (md v)))))]) hx hb hr hlocks () trivial (by rw [rset_in ⟨by omega, by omega⟩]; exact hP) (by rw [rset_in ⟨by omega, by omega⟩]; exact hD) hS d_Row_set_23

set_option maxHeartbeats 4000000 in
set_option maxRecDepth 100000 in
/-- Row.wipe() -/
theorem c_wipe (l : Launch) (dC : Nat → ClassId) (dI : Nat → Nat → Nat) (cA : ClassId) (sz : Nat) (h a n : Nat) (f : Int → Int) (hn : (n : Int) ≤ 41) (hf : RoW n f) : Met l y_Row_wipe w_Row_wipe ({ frames := 0, cells := 0, slots := 0, locals := 0 }) (va_Pc [.ref h] (wP (dC, dI) vC [(cA, .int)] [(h, .inr (0, [.ref a])), (a, .inl (cA, n, .inl (aR f)))] sz)) (va_Qv (fun _u : Unit => True) (fun (_u : Unit) t => wB (dC, dI) vC (va_A [(h, .inr (0, [.ref a])), (a, .inl (cA, n, .inl (aR f)))] sz) [(h, .inr (0, [.ref a])), (a, .inl (cA, n, .inl (aR (fun _ => 0))))] t) (va_A [(h, .inr (0, [.ref a])), (a, .inl (cA, n, .inl (aR f)))] sz)) 0 0 (va_A [(h, .inr (0, [.ref a])), (a, .inl (cA, n, .inl (aR f)))] sz) := by
  refine Met.ofW (cc := b_Row_wipe) (maxL := 2) (ret := (Option.none : Option Jvm.ClassFile.FieldType)) (by decide) rfl ?_
  intro p e s m args below meth c s₁ B hml hv
  obtain ⟨rfl, hsz, hP, hK, hD0⟩ := hv
  have hx := B.exec
  have hb := B.bytes
  have hr := B.returns
  have hts : ∀ w ∈ tT, w.before _ s = true := fun w h => atoms_spec (ws := w_Row_wipe) B.pre w (List.mem_cons_of_mem _ h)
  have hown : s.vm.findClass "OrderTwoCases$Row" = some m.cls := findClass_of_methodNamed B.named
  have hlocks := B.notSynchronized
  subst hsz
  have hD := hD0.self (sz := s.heap.size)
  generalize hAe : va_A [(h, .inr (0, [.ref a])), (a, .inl (cA, n, .inl (aR f)))] s.heap.size = A at hD ⊢
  have hA : ∀ q : Nat, s.heap.size ≤ q → A q := fun q h => by rw [← hAe]; exact Or.inr h
  have hS : va_S A s.heap s.heap [] := va_S.rf
  have hl := lv_entry ([.ref h]) (n := 2) (Nat.le_of_ble_eq_true rfl)
  rw [lg_entry_eq]
  generalize (lg_sl ([.ref h]) ++ List.replicate (2 - (lg_sl ([.ref h])).length) Slot.unset).toArray = ls at hl ⊢
  have hl : lv_has ls 2 [(0, .ref h)] := hl
  refine lv_iconst (v := iZ (0)) hx hb d_Row_wipe_0 rfl ?_
  refine lv_istore_n (lv' := [(1, .int (iZ (0))), (0, .ref h)]) hx hb d_Row_wipe_1 rfl hl (by decide) rfl (fun ls hl => ?_)
  have loop_2 : ∀ (m_2 : Nat) (i : Int) (hi : 0 ≤ i ∧ i ≤ (n : Int)) (hmeas : (n : Int) - i < (m_2 : Int)) (H : Heap) (locs : List Loc) (hP : va_P (dC, dI) vC [(h, .inr (0, [.ref a])), (a, .inl (cA, n, .inl (aR (fL (fun _ => 0) f i))))] H) (hD : va_D A [(h, .inr (0, [.ref a])), (a, .inl (cA, n, .inl (aR (fL (fun _ => 0) f i))))]) (hS : va_S A s.heap H locs) (ls : Array Slot) (hl : lv_has ls 2 [(1, .int (iZ (i))), (0, .ref h)]), W p l e ({ frames := 0, cells := 0, slots := 0, locals := 0 } : Room) s m ([.ref h] : List Value).toArray below meth c H locs 0 0 (MQ below (va_Qv (fun _u : Unit => True) (fun (_u : Unit) t => wB (dC, dI) vC A [(h, .inr (0, [.ref a])), (a, .inl (cA, n, .inl (aR (fun _ => 0))))] t) A) ([.ref h] : List Value).toArray s 0 0 A) (F0 m 2 ls []) := by
    intro m_2
    induction m_2 with
    | zero =>
      intro i hi hmeas
      exfalso; omega
    | succ m_2 ih_2 =>
      intro i hi hmeas H locs hP hD hS ls hl
      refine lv_iload_n hx hb d_Row_wipe_2 rfl (lv_at hl 0 rfl) ?_
      refine lv_aload_n hx hb d_Row_wipe_3 rfl (lv_at hl 1 rfl) ?_
      refine va_get (D := (dC, dI)) (ci := 0) (v := .ref a) (C := "OrderTwoCases$Row") (T := F_Row) (N := 1) hx hb hts la_Row hown hK hP 0 rfl rfl 0 (by decide) (hts _ k_35) (fun _ h9 => h9) rfl d_Row_wipe_4 ?_
      refine z_alen hx hb hK hP 1 0 rfl rfl d_Row_wipe_7 ?_
      refine z_icmp_ge (tgt := 24) hx hb d_Row_wipe_8 (by decide) (by omega) (by omega) (fun c_8 => ?_) (fun c_8 => ?_)
      · have hz : i = (n : Int) := by omega
        exact w_vret (wn := fun _ => [(h, .inr (0, [.ref a])), (a, .inl (cA, n, .inl (aR (fun _ => 0))))]) hx hb hr hlocks () trivial (by rw [hz, fL_n hf (fun _ _ => rfl)] at hP; exact hP) (by rw [hz, fL_n hf (fun _ _ => rfl)] at hD; exact hD) hS d_Row_wipe_24
      · refine lv_aload_n hx hb d_Row_wipe_11 rfl (lv_at hl 1 rfl) ?_
        refine va_get (D := (dC, dI)) (ci := 0) (v := .ref a) (C := "OrderTwoCases$Row") (T := F_Row) (N := 1) hx hb hts la_Row hown hK hP 0 rfl rfl 0 (by decide) (hts _ k_35) (fun _ h9 => h9) rfl d_Row_wipe_12 ?_
        refine lv_iload_n hx hb d_Row_wipe_15 rfl (lv_at hl 0 rfl) ?_
        refine lv_iconst (v := iZ (0)) hx hb d_Row_wipe_16 rfl ?_
        refine z_iast (wf := [(h, .inr (0, [.ref a])), (a, .inl (cA, n, .inl (aR (sT (fL (fun _ => 0) f i) i 0))))]) hx hb hK hP hD hS 1 0 rfl rfl (by omega) (by omega) (by omega) d_Row_wipe_17 rfl (fun H locs hP hD hS => ?_)
        rw [fL_st (fun _ => 0) f (by omega) rfl] at hP hD
        refine z_iinc (lv' := [(1, .int (iZ (i + 1))), (0, .ref h)]) hx hb d_Row_wipe_18 hl (k := 0) rfl (by decide) rfl (fun ls hl => ?_)
        refine lv_goto (tgt := 2) hx hb d_Row_wipe_21 (by decide) ?_
        exact ih_2 (i + 1) (by omega) (by omega) _ _ hP hD hS ls (lv_sub hl [0, 1] rfl)
  rw [← fL_0 (fun _ => 0) f] at hP hD
  exact loop_2 (n + 1) 0 (by omega) (by omega) _ _ hP hD hS ls (lv_sub hl [0, 1] rfl)

set_option maxHeartbeats 4000000 in
set_option maxRecDepth 100000 in
/-- Row.top() -/
theorem c_top (l : Launch) (dC : Nat → ClassId) (dI : Nat → Nat → Nat) (cA : ClassId) (h a n : Nat) (f : Int → Int) (hn : (n : Int) ≤ 41) (hf : RoW n f) : Met l y_Row_top w_Row_top ({ frames := 0, cells := 0, slots := 0, locals := 0 }) (va_Pc [.ref h] (wR (dC, dI) vC [(cA, .int)] [(h, .inr (0, [.ref a])), (a, .inl (cA, n, .inl (aR f)))])) (vp_Si (fun r => r = iZ (tpz f n))) 0 0 (fun _ => False) := by
  refine Met.ofW (cc := b_Row_top) (maxL := 2) (ret := (Option.some Jvm.ClassFile.FieldType.int)) (by decide) rfl ?_
  intro p e s m args below meth c s₁ B hml hv
  obtain ⟨rfl, hP, hK⟩ := hv
  have hx := B.exec
  have hb := B.bytes
  have hr := B.returns
  have hts : ∀ w ∈ tT, w.before _ s = true := fun w h => atoms_spec (ws := w_Row_top) B.pre w (List.mem_cons_of_mem _ h)
  have hown : s.vm.findClass "OrderTwoCases$Row" = some m.cls := findClass_of_methodNamed B.named
  have hlocks := B.notSynchronized
  have hl := lv_entry ([.ref h]) (n := 2) (Nat.le_of_ble_eq_true rfl)
  rw [lg_entry_eq]
  generalize (lg_sl ([.ref h]) ++ List.replicate (2 - (lg_sl ([.ref h])).length) Slot.unset).toArray = ls at hl ⊢
  have hl : lv_has ls 2 [(0, .ref h)] := hl
  refine lv_aload_n hx hb d_Row_top_0 rfl (lv_at hl 0 rfl) ?_
  refine va_get (D := (dC, dI)) (ci := 0) (v := .ref a) (C := "OrderTwoCases$Row") (T := F_Row) (N := 1) hx hb hts la_Row hown hK hP 0 rfl rfl 0 (by decide) (hts _ k_35) (fun _ h9 => h9) rfl d_Row_top_1 ?_
  refine z_alen hx hb hK hP 1 0 rfl rfl d_Row_top_4 ?_
  refine lv_iconst (v := iZ (1)) hx hb d_Row_top_5 rfl ?_
  refine z_isub hx hb d_Row_top_6 ?_
  refine lv_istore_n (lv' := [(1, .int (iZ ((((n : Nat) : Int)) - 1))), (0, .ref h)]) hx hb d_Row_top_7 rfl hl (by decide) rfl (fun ls hl => ?_)
  have loop_8 : ∀ (m_8 : Nat) (i : Int) (hi : -1 ≤ i ∧ i < (n : Int)) (hinv : tpz f (i + 1).toNat = tpz f n) (hmeas : i + 1 < (m_8 : Int)) (ls : Array Slot) (hl : lv_has ls 2 [(1, .int (iZ (i))), (0, .ref h)]), W p l e ({ frames := 0, cells := 0, slots := 0, locals := 0 } : Room) s m ([.ref h] : List Value).toArray below meth c s.heap [] 0 0 (MQ below (vp_Si (fun r => r = iZ (tpz f n))) ([.ref h] : List Value).toArray s 0 0 (fun _ => False)) (F0 m 8 ls []) := by
    intro m_8
    induction m_8 with
    | zero =>
      intro i hi hinv hmeas
      exfalso; omega
    | succ m_8 ih_8 =>
      intro i hi hinv hmeas ls hl
      refine lv_iload_n hx hb d_Row_top_8 rfl (lv_at hl 0 rfl) ?_
      refine z_if_lt (tgt := 29) hx hb d_Row_top_9 (by decide) (by omega) (fun c_9 => ?_) (fun c_9 => ?_)
      · refine lv_iconst (v := iZ (-1)) hx hb d_Row_top_29 rfl ?_
        exact w_reti hx hb hr hlocks (by rw [← hinv, show i = -1 by omega]; rfl) d_Row_top_30
      · refine lv_aload_n hx hb d_Row_top_12 rfl (lv_at hl 1 rfl) ?_
        refine va_get (D := (dC, dI)) (ci := 0) (v := .ref a) (C := "OrderTwoCases$Row") (T := F_Row) (N := 1) hx hb hts la_Row hown hK hP 0 rfl rfl 0 (by decide) (hts _ k_35) (fun _ h9 => h9) rfl d_Row_top_13 ?_
        refine lv_iload_n hx hb d_Row_top_16 rfl (lv_at hl 0 rfl) ?_
        refine z_iald hx hb hK hP 1 0 rfl rfl (by omega) (by omega) (by omega) d_Row_top_17 ?_
        refine z_if_eq (tgt := 23) hx hb d_Row_top_18 (by decide) (by have := hf.r i; omega) (fun c_18 => ?_) (fun c_18 => ?_)
        · refine z_iinc (lv' := [(1, .int (iZ (i + (-1)))), (0, .ref h)]) hx hb d_Row_top_23 hl (k := 0) rfl (by decide) rfl (fun ls hl => ?_)
          refine lv_goto (tgt := 8) hx hb d_Row_top_26 (by decide) ?_
          exact ih_8 (i + -1) (by omega) (by rw [← tpz_miss (by omega) c_18]; exact hinv) (by omega) ls (lv_sub hl [0, 1] rfl)
        · refine lv_iload_n hx hb d_Row_top_21 rfl (lv_at hl 0 rfl) ?_
          exact w_reti hx hb hr hlocks (by rw [← hinv, tpz_hit (by omega) c_18]) d_Row_top_22
  exact loop_8 (n + 1) ((n : Int) - 1) (by omega) (by congr 1; omega) (by omega) ls (lv_sub hl [0, 1] rfl)

set_option maxHeartbeats 4000000 in
set_option maxRecDepth 100000 in
/-- Row.slopeAt(k) -/
theorem c_slopeAt (l : Launch) (dC : Nat → ClassId) (dI : Nat → Nat → Nat) (cA : ClassId) (h a n : Nat) (f : Int → Int) (hn : (n : Int) ≤ 41) (hf : RoW n f) (k : Int) (hk : -100 ≤ k ∧ k ≤ 100) : Met l y_Row_slopeAt w_Row_slopeAt ({ frames := 0, cells := 0, slots := 0, locals := 0 }) (va_Pc [.ref h, .int (iZ (k))] (wR (dC, dI) vC [(cA, .int)] [(h, .inr (0, [.ref a])), (a, .inl (cA, n, .inl (aR f)))])) (vp_Sl (fun r => r = lZ (slr f k))) 0 0 (fun _ => False) := by
  refine Met.ofW (cc := b_Row_slopeAt) (maxL := 3) (ret := (Option.some Jvm.ClassFile.FieldType.long)) (by decide) rfl ?_
  intro p e s m args below meth c s₁ B hml hv
  obtain ⟨rfl, hP, hK⟩ := hv
  have hx := B.exec
  have hb := B.bytes
  have hr := B.returns
  have hts : ∀ w ∈ tT, w.before _ s = true := fun w h => atoms_spec (ws := w_Row_slopeAt) B.pre w (List.mem_cons_of_mem _ h)
  have hown : s.vm.findClass "OrderTwoCases$Row" = some m.cls := findClass_of_methodNamed B.named
  have hlocks := B.notSynchronized
  have hl := lv_entry ([.ref h, .int (iZ (k))]) (n := 3) (Nat.le_of_ble_eq_true rfl)
  rw [lg_entry_eq]
  generalize (lg_sl ([.ref h, .int (iZ (k))]) ++ List.replicate (3 - (lg_sl ([.ref h, .int (iZ (k))])).length) Slot.unset).toArray = ls at hl ⊢
  have hl : lv_has ls 3 [(0, .ref h), (1, .int (iZ (k)))] := hl
  refine lv_iload_n hx hb d_Row_slopeAt_0 rfl (lv_at hl 1 rfl) ?_
  refine lv_iconst (v := iZ (1)) hx hb d_Row_slopeAt_1 rfl ?_
  refine z_iadd hx hb d_Row_slopeAt_2 ?_
  refine lv_istore_n (lv' := [(2, .int (iZ (k + 1))), (0, .ref h), (1, .int (iZ (k)))]) hx hb d_Row_slopeAt_3 rfl hl (by decide) rfl (fun ls hl => ?_)
  refine lv_iload_n hx hb d_Row_slopeAt_4 rfl (lv_at hl 0 rfl) ?_
  refine z_if_le (tgt := 30) hx hb d_Row_slopeAt_5 (by decide) (by omega) (fun c_5 => ?_) (fun c_5 => ?_)
  · refine lv_lconst (v := lZ (0)) hx hb d_Row_slopeAt_30 (by decide +kernel) ?_
    exact w_retl hx hb hr hlocks (by rw [slr_0 hf (by omega)]) d_Row_slopeAt_31
  · refine lv_iload_n hx hb d_Row_slopeAt_8 rfl (lv_at hl 0 rfl) ?_
    refine lv_aload_n hx hb d_Row_slopeAt_9 rfl (lv_at hl 1 rfl) ?_
    refine va_get (D := (dC, dI)) (ci := 0) (v := .ref a) (C := "OrderTwoCases$Row") (T := F_Row) (N := 1) hx hb hts la_Row hown hK hP 0 rfl rfl 0 (by decide) (hts _ k_35) (fun _ h9 => h9) rfl d_Row_slopeAt_10 ?_
    refine z_alen hx hb hK hP 1 0 rfl rfl d_Row_slopeAt_13 ?_
    refine z_icmp_ge (tgt := 30) hx hb d_Row_slopeAt_14 (by decide) (by omega) (by omega) (fun c_14 => ?_) (fun c_14 => ?_)
    · refine lv_lconst (v := lZ (0)) hx hb d_Row_slopeAt_30 (by decide +kernel) ?_
      exact w_retl hx hb hr hlocks (by rw [slr_0 hf (by omega)]) d_Row_slopeAt_31
    · refine lv_iload_n hx hb d_Row_slopeAt_17 rfl (lv_at hl 0 rfl) ?_
      refine z_i2l hx hb d_Row_slopeAt_18 (by omega) ?_
      refine lv_aload_n hx hb d_Row_slopeAt_19 rfl (lv_at hl 1 rfl) ?_
      refine va_get (D := (dC, dI)) (ci := 0) (v := .ref a) (C := "OrderTwoCases$Row") (T := F_Row) (N := 1) hx hb hts la_Row hown hK hP 0 rfl rfl 0 (by decide) (hts _ k_35) (fun _ h9 => h9) rfl d_Row_slopeAt_20 ?_
      refine lv_iload_n hx hb d_Row_slopeAt_23 rfl (lv_at hl 0 rfl) ?_
      refine z_iald hx hb hK hP 1 0 rfl rfl (by omega) (by omega) (by omega) d_Row_slopeAt_24 ?_
      refine z_i2l hx hb d_Row_slopeAt_25 (by have := hf.r (k + 1); omega) ?_
      refine z_lmul hx hb d_Row_slopeAt_26 ?_
      refine lv_goto (tgt := 31) hx hb d_Row_slopeAt_27 (by decide) ?_
      exact w_retl hx hb hr hlocks rfl d_Row_slopeAt_31

set_option maxHeartbeats 4000000 in
set_option maxRecDepth 100000 in
/-- Row.timesAt(other, k) -/
theorem c_timesAt (l : Launch) (dC : Nat → ClassId) (dI : Nat → Nat → Nat) (cA : ClassId) (h a n h2 a2 n2 : Nat) (f g : Int → Int) (hn : (n : Int) ≤ 41) (hn2 : (n2 : Int) ≤ 41) (hf : RoW n f) (hg : RoW n2 g) (k : Int) (hk : -100 ≤ k ∧ k ≤ 100) : Met l y_Row_timesAt w_Row_timesAt ({ frames := 1, cells := 0, slots := 0, locals := 22 }) (va_Pc [.ref h, .ref h2, .int (iZ (k))] (wR (dC, dI) vC [(cA, .int)] [(h, .inr (0, [.ref a])), (a, .inl (cA, n, .inl (aR f))), (h2, .inr (0, [.ref a2])), (a2, .inl (cA, n2, .inl (aR g)))])) (vp_Si (fun r => r = iZ (tmz n f g k))) 0 0 (fun _ => False) := by
  refine Met.ofW (cc := b_Row_timesAt) (maxL := 6) (ret := (Option.some Jvm.ClassFile.FieldType.int)) (by decide) rfl ?_
  intro p e s m args below meth c s₁ B hml hv
  obtain ⟨rfl, hP, hK⟩ := hv
  have hx := B.exec
  have hb := B.bytes
  have hr := B.returns
  have hts : ∀ w ∈ tT, w.before _ s = true := fun w h => atoms_spec (ws := w_Row_timesAt) B.pre w (List.mem_cons_of_mem _ h)
  have hown : s.vm.findClass "OrderTwoCases$Row" = some m.cls := findClass_of_methodNamed B.named
  have hlocks := B.notSynchronized
  have hl := lv_entry ([.ref h, .ref h2, .int (iZ (k))]) (n := 6) (Nat.le_of_ble_eq_true rfl)
  rw [lg_entry_eq]
  generalize (lg_sl ([.ref h, .ref h2, .int (iZ (k))]) ++ List.replicate (6 - (lg_sl ([.ref h, .ref h2, .int (iZ (k))])).length) Slot.unset).toArray = ls at hl ⊢
  have hl : lv_has ls 6 [(0, .ref h), (1, .ref h2), (2, .int (iZ (k)))] := hl
  refine lv_lconst (v := lZ (0)) hx hb d_Row_timesAt_0 (by decide +kernel) ?_
  refine lv_lstore_n (lv' := [(3, .long (lZ (0))), (0, .ref h), (1, .ref h2), (2, .int (iZ (k)))]) hx hb d_Row_timesAt_1 rfl hl (by decide) rfl (fun ls hl => ?_)
  refine lv_iconst (v := iZ (0)) hx hb d_Row_timesAt_2 rfl ?_
  refine lv_istore (lv' := [(5, .int (iZ (0))), (3, .long (lZ (0))), (0, .ref h), (1, .ref h2), (2, .int (iZ (k)))]) hx hb d_Row_timesAt_3 hl (by decide) rfl (fun ls hl => ?_)
  have loop_5 : ∀ (m_5 : Nat) (i : Int) (sum : Int) (hi : 0 ≤ i ∧ i ≤ (n : Int)) (hsum : sum = suM (fun i => f i * g (k - i)) i.toNat) (hmeas : (n : Int) - i < (m_5 : Int)) (ls : Array Slot) (hl : lv_has ls 6 [(5, .int (iZ (i))), (3, .long (lZ (sum))), (0, .ref h), (1, .ref h2), (2, .int (iZ (k)))]), W p l e ({ frames := 1, cells := 0, slots := 0, locals := 22 } : Room) s m ([.ref h, .ref h2, .int (iZ (k))] : List Value).toArray below meth c s.heap [] 0 0 (MQ below (vp_Si (fun r => r = iZ (tmz n f g k))) ([.ref h, .ref h2, .int (iZ (k))] : List Value).toArray s 0 0 (fun _ => False)) (F0 m 5 ls []) := by
    intro m_5
    induction m_5 with
    | zero =>
      intro i sum hi hsum hmeas
      exfalso; omega
    | succ m_5 ih_5 =>
      intro i sum hi hsum hmeas ls hl
      refine lv_iload hx hb d_Row_timesAt_5 (lv_at hl 0 rfl) ?_
      refine lv_aload_n hx hb d_Row_timesAt_7 rfl (lv_at hl 2 rfl) ?_
      refine va_get (D := (dC, dI)) (ci := 0) (v := .ref a) (C := "OrderTwoCases$Row") (T := F_Row) (N := 1) hx hb hts la_Row hown hK hP 0 rfl rfl 0 (by decide) (hts _ k_35) (fun _ h9 => h9) rfl d_Row_timesAt_8 ?_
      refine z_alen hx hb hK hP 1 0 rfl rfl d_Row_timesAt_11 ?_
      refine z_icmp_ge (tgt := 42) hx hb d_Row_timesAt_12 (by decide) (by omega) (by omega) (fun c_12 => ?_) (fun c_12 => ?_)
      · refine lv_lload_n hx hb d_Row_timesAt_42 rfl (lv_at hl 1 rfl) ?_
        refine w_rdi (va_runS (As := [.long (lZ (sum))]) (rest := []) ⟨hx, hb, hml, hown, hts⟩ (c_of l sum (by have hb9 := suM_bd (h := fun i => f i * g (k - i)) (M := 1024128004) (fun j => mul_bd (hf.r j) (hg.r (k - j))) i.toNat; rw [← hsum] at hb9; omega)) (va_cwS 1 hts g_Row_15 rfl rfl rfl (by decide +kernel) ⟨Nat.le_of_ble_eq_true rfl, Nat.le_of_ble_eq_true rfl⟩) preEq rfl rfl hl.1 rfl (lv_room (Nat.le_of_ble_eq_true rfl)) d_Row_timesAt_43 ⟨Nat.le_of_ble_eq_true rfl, Nat.le_of_ble_eq_true rfl⟩) ?_
        exact w_reti hx hb hr hlocks (by unfold tmz; rw [hsum, show i.toNat = n by omega]) d_Row_timesAt_46
      · refine lv_lload_n hx hb d_Row_timesAt_15 rfl (lv_at hl 1 rfl) ?_
        refine lv_aload_n hx hb d_Row_timesAt_16 rfl (lv_at hl 2 rfl) ?_
        refine va_get (D := (dC, dI)) (ci := 0) (v := .ref a) (C := "OrderTwoCases$Row") (T := F_Row) (N := 1) hx hb hts la_Row hown hK hP 0 rfl rfl 0 (by decide) (hts _ k_35) (fun _ h9 => h9) rfl d_Row_timesAt_17 ?_
        refine lv_iload hx hb d_Row_timesAt_20 (lv_at hl 0 rfl) ?_
        refine z_iald hx hb hK hP 1 0 rfl rfl (by omega) (by omega) (by omega) d_Row_timesAt_22 ?_
        have hfi := hf.r i
        refine z_i2l hx hb d_Row_timesAt_23 (by omega) ?_
        refine lv_aload_n hx hb d_Row_timesAt_24 rfl (lv_at hl 3 rfl) ?_
        refine lv_iload_n hx hb d_Row_timesAt_25 rfl (lv_at hl 4 rfl) ?_
        refine lv_iload hx hb d_Row_timesAt_26 (lv_at hl 0 rfl) ?_
        refine z_isub hx hb d_Row_timesAt_28 ?_
        refine w_rdi (va_runV (As := [.int (iZ (k - i))]) (rest := [.long (lZ (f i)), .long (lZ (sum))]) ⟨hx, hb, hml, hown, hts⟩ (c_get l dC dI cA h2 a2 n2 g hn2 hg (k - i) (by omega)) (cwV 1 hts g_Row_21 rfl rfl rfl (by decide +kernel) ⟨Nat.le_of_ble_eq_true rfl, Nat.le_of_ble_eq_true rfl⟩) (wR_preV hK hP [0] rfl [2, 3] rfl rfl rfl 2 rfl) rfl rfl hl.1 rfl (lv_room (Nat.le_of_ble_eq_true rfl)) d_Row_timesAt_29 ⟨Nat.le_of_ble_eq_true rfl, Nat.le_of_ble_eq_true rfl⟩) ?_
        have hg_29 : 0 ≤ g (k - i) ∧ g (k - i) < 32003 := (hg).r (k - i)
        refine z_i2l hx hb d_Row_timesAt_32 (by omega) ?_
        refine z_lmul hx hb d_Row_timesAt_33 ?_
        refine z_ladd hx hb d_Row_timesAt_34 ?_
        refine lv_lstore_n (lv' := [(3, .long (lZ (sum + ((f i) * (g (k - i)))))), (5, .int (iZ (i))), (0, .ref h), (1, .ref h2), (2, .int (iZ (k)))]) hx hb d_Row_timesAt_35 rfl hl (by decide) rfl (fun ls hl => ?_)
        refine z_iinc (lv' := [(5, .int (iZ (i + 1))), (3, .long (lZ (sum + ((f i) * (g (k - i)))))), (0, .ref h), (1, .ref h2), (2, .int (iZ (k)))]) hx hb d_Row_timesAt_36 hl (k := 1) rfl (by decide) rfl (fun ls hl => ?_)
        refine lv_goto (tgt := 5) hx hb d_Row_timesAt_39 (by decide) ?_
        exact ih_5 (i + 1) (sum + ((f i) * (g (k - i)))) (by omega) (by rw [hsum]; exact suM_step (fun i => f i * g (k - i)) (by omega)) (by omega) ls (lv_sub hl [0, 1, 2, 3, 4] rfl)
  exact loop_5 (n + 1) 0 0 (by omega) rfl (by omega) ls (lv_sub hl [0, 1, 2, 3, 4] rfl)

set_option maxHeartbeats 4000000 in
set_option maxRecDepth 100000 in
/-- Row(last): one new array of last + 1 zeros -/
theorem c_Row_init (l : Launch) (dC : Nat → ClassId) (dI : Nat → Nat → Nat) (cA : ClassId) (sz : Nat) (h N : Nat) (hN : N ≤ 40) : Met l y_Row_init w_Row_init ({ frames := 1, cells := 1, slots := (N + 1), locals := 20 }) (va_Pc [.ref h, .int (iZ ((N : Int)))] (wP (dC, dI) vC [(cA, .int)] [(h, .inr (0, [.null]))] sz)) (va_Qv (fun a : Nat => True) (fun (a : Nat) t => wB (dC, dI) vC (va_A [(h, .inr (0, [.null]))] sz) [(h, .inr (0, [.ref a])), (a, .inl (cA, (N + 1), .inl (aR (fun _ => 0))))] t) (va_A [(h, .inr (0, [.null]))] sz)) 1 (N + 1) (va_A [(h, .inr (0, [.null]))] sz) := by
  refine Met.ofW (cc := b_Row_init) (maxL := 2) (ret := (Option.none : Option Jvm.ClassFile.FieldType)) (by decide) rfl ?_
  intro p e s m args below meth c s₁ B hml hv
  obtain ⟨rfl, hsz, hP, hK, hD0⟩ := hv
  have hx := B.exec
  have hb := B.bytes
  have hr := B.returns
  have hts : ∀ w ∈ tT, w.before _ s = true := fun w h => atoms_spec (ws := w_Row_init) B.pre w (List.mem_cons_of_mem _ h)
  have hown : s.vm.findClass "OrderTwoCases$Row" = some m.cls := findClass_of_methodNamed B.named
  have hlocks := B.notSynchronized
  have hin : meth.name = "<init>" := (name_of_methodNamed B.named B.method).1
  subst hsz
  have hD := hD0.self (sz := s.heap.size)
  generalize hAe : va_A [(h, .inr (0, [.null]))] s.heap.size = A at hD ⊢
  have hA : ∀ q : Nat, s.heap.size ≤ q → A q := fun q h => by rw [← hAe]; exact Or.inr h
  have hS : va_S A s.heap s.heap [] := va_S.rf
  have hl := lv_entry ([.ref h, .int (iZ ((N : Int)))]) (n := 2) (Nat.le_of_ble_eq_true rfl)
  rw [lg_entry_eq]
  generalize (lg_sl ([.ref h, .int (iZ ((N : Int)))]) ++ List.replicate (2 - (lg_sl ([.ref h, .int (iZ ((N : Int)))])).length) Slot.unset).toArray = ls at hl ⊢
  have hl : lv_has ls 2 [(0, .ref h), (1, .int (iZ ((N : Int))))] := hl
  refine lv_aload_n hx hb d_Row_init_0 rfl (lv_at hl 0 rfl) ?_
  refine W.objInit hx hb hown (hts _ k_34) (hts _ k_21) (hts _ k_22) rfl (by rw [hml]; exact hl.1) rfl d_Row_init_1 (Nat.le_of_ble_eq_true rfl) (Nat.le_of_ble_eq_true rfl) ?_
  refine W.eq (g2 := F0 m 4 ls []) rfl ?_
  refine lv_aload_n hx hb d_Row_init_4 rfl (lv_at hl 0 rfl) ?_
  refine lv_iload_n hx hb d_Row_init_5 rfl (lv_at hl 1 rfl) ?_
  refine z_if_lt (tgt := 15) hx hb d_Row_init_6 (by decide) (by omega) (fun c_6 => ?_) (fun c_6 => ?_)
  · exfalso; omega
  · refine lv_iload_n hx hb d_Row_init_9 rfl (lv_at hl 1 rfl) ?_
    refine lv_bipush (v := iZ (40)) hx hb d_Row_init_10 (by decide +kernel) ?_
    refine z_icmp_le (tgt := 19) hx hb d_Row_init_12 (by decide) (by omega) (by omega) (fun c_12 => ?_) (fun c_12 => ?_)
    · refine lv_iload_n hx hb d_Row_init_19 rfl (lv_at hl 1 rfl) ?_
      refine lv_iconst (v := iZ (1)) hx hb d_Row_init_20 rfl ?_
      refine z_iadd hx hb d_Row_init_21 ?_
      refine z_newi (N := (N + 1)) hx hb (hts _ k_39) hK 0 rfl hP hD hS hA (by omega) (by omega) (Nat.le_refl _) (by show 0 + (N + 1) ≤ N + 1; omega) d_Row_init_22 (fun a H hP hD hS => ?_)
      have hP : va_P (dC, dI) vC [(h, .inr (0, [.null])), (a, .inl (cA, (N + 1), .inl (aR (fun _ => 0))))] H := hP
      have hD : va_D A [(h, .inr (0, [.null])), (a, .inl (cA, (N + 1), .inl (aR (fun _ => 0))))] := hD
      refine W.widen (k := 1) (n := N + 1) (by omega) (by omega) ?_
      refine va_putF (D := (dC, dI)) (ci := 0) (v := .ref a) (ty := .array .int) (C := "OrderTwoCases$Row") (T := F_Row) (N := 1) hx hb hts la_Row t_Row tok_Row nm_Row hown hK hP hD hS 0 rfl rfl 0 (by decide) (hts _ k_35) (fun _ h9 => h9) rfl hin rfl (by decide +kernel) rfl rfl (Nat.le_of_ble_eq_true rfl) d_Row_init_24 (fun H locs hP hD hS => ?_)
      have hP : va_P (dC, dI) vC [(h, .inr (0, [.ref a])), (a, .inl (cA, (N + 1), .inl (aR (fun _ => 0))))] H := hP
      have hD : va_D A [(h, .inr (0, [.ref a])), (a, .inl (cA, (N + 1), .inl (aR (fun _ => 0))))] := hD
      exact w_vret (wn := fun (a : Nat) => [(h, .inr (0, [.ref a])), (a, .inl (cA, (N + 1), .inl (aR (fun _ => 0))))]) hx hb hr hlocks a trivial hP hD hS d_Row_init_27
    · exfalso; omega

set_option maxHeartbeats 4000000 in
set_option maxRecDepth 100000 in
/-- Row.shift(v) -/
theorem c_shift (l : Launch) (dC : Nat → ClassId) (dI : Nat → Nat → Nat) (cA : ClassId) (sz : Nat) (h a n : Nat) (f : Int → Int) (hn : (n : Int) ≤ 41) (hf : RoW n f) (v : Int) (hv : -9223372036854775808 ≤ v ∧ v < 9223372036854775808) : Met l y_Row_shift w_Row_shift ({ frames := 2, cells := 0, slots := 0, locals := 45 }) (va_Pc [.ref h, .long (lZ (v))] (wP (dC, dI) vC [(cA, .int)] [(h, .inr (0, [.ref a])), (a, .inl (cA, n, .inl (aR f)))] sz)) (va_Qv (fun _u : Unit => True) (fun (_u : Unit) t => wB (dC, dI) vC (va_A [(h, .inr (0, [.ref a])), (a, .inl (cA, n, .inl (aR f)))] sz) [(h, .inr (0, [.ref a])), (a, .inl (cA, n, .inl (aR (shO n (md v) n f))))] t) (va_A [(h, .inr (0, [.ref a])), (a, .inl (cA, n, .inl (aR f)))] sz)) 0 0 (va_A [(h, .inr (0, [.ref a])), (a, .inl (cA, n, .inl (aR f)))] sz) := by
  refine Met.ofW (cc := b_Row_shift) (maxL := 7) (ret := (Option.none : Option Jvm.ClassFile.FieldType)) (by decide) rfl ?_
  intro p e s m args below meth c s₁ B hml hv
  obtain ⟨rfl, hsz, hP, hK, hD0⟩ := hv
  have hx := B.exec
  have hb := B.bytes
  have hr := B.returns
  have hts : ∀ w ∈ tT, w.before _ s = true := fun w h => atoms_spec (ws := w_Row_shift) B.pre w (List.mem_cons_of_mem _ h)
  have hown : s.vm.findClass "OrderTwoCases$Row" = some m.cls := findClass_of_methodNamed B.named
  have hlocks := B.notSynchronized
  subst hsz
  have hD := hD0.self (sz := s.heap.size)
  generalize hAe : va_A [(h, .inr (0, [.ref a])), (a, .inl (cA, n, .inl (aR f)))] s.heap.size = A at hD ⊢
  have hA : ∀ q : Nat, s.heap.size ≤ q → A q := fun q h => by rw [← hAe]; exact Or.inr h
  have hS : va_S A s.heap s.heap [] := va_S.rf
  have hl := lv_entry ([.ref h, .long (lZ (v))]) (n := 7) (Nat.le_of_ble_eq_true rfl)
  rw [lg_entry_eq]
  generalize (lg_sl ([.ref h, .long (lZ (v))]) ++ List.replicate (7 - (lg_sl ([.ref h, .long (lZ (v))])).length) Slot.unset).toArray = ls at hl ⊢
  have hl : lv_has ls 7 [(0, .ref h), (1, .long (lZ (v)))] := hl
  refine lv_lload_n hx hb d_Row_shift_0 rfl (lv_at hl 1 rfl) ?_
  refine w_rdi (va_runS (As := [.long (lZ (v))]) (rest := []) ⟨hx, hb, hml, hown, hts⟩ (c_of l v hv) (va_cwS 1 hts g_Row_15 rfl rfl rfl (by decide +kernel) ⟨Nat.le_of_ble_eq_true rfl, Nat.le_of_ble_eq_true rfl⟩) preEq rfl rfl hl.1 rfl (lv_room (Nat.le_of_ble_eq_true rfl)) d_Row_shift_1 ⟨Nat.le_of_ble_eq_true rfl, Nat.le_of_ble_eq_true rfl⟩) ?_
  refine z_i2l hx hb d_Row_shift_4 (by have := md_r v; omega) ?_
  refine lv_lstore_n (lv' := [(3, .long (lZ (md v))), (0, .ref h), (1, .long (lZ (v)))]) hx hb d_Row_shift_5 rfl hl (by decide) rfl (fun ls hl => ?_)
  refine lv_iconst (v := iZ (0)) hx hb d_Row_shift_6 rfl ?_
  refine lv_istore (lv' := [(5, .int (iZ (0))), (3, .long (lZ (md v))), (0, .ref h), (1, .long (lZ (v)))]) hx hb d_Row_shift_7 hl (by decide) rfl (fun ls hl => ?_)
  have loop_9 : ∀ (m_9 : Nat) (low : Int) (g0 : Int → Int) (hlow : 0 ≤ low ∧ low ≤ (n : Int)) (hg0 : RoW n g0) (hinv : shO n (md v) ((n : Int) - low).toNat g0 = shO n (md v) n f) (hmeas : (n : Int) - low < (m_9 : Int)) (H : Heap) (locs : List Loc) (hP : va_P (dC, dI) vC [(h, .inr (0, [.ref a])), (a, .inl (cA, n, .inl (aR g0)))] H) (hD : va_D A [(h, .inr (0, [.ref a])), (a, .inl (cA, n, .inl (aR g0)))]) (hS : va_S A s.heap H locs) (ls : Array Slot) (hl : lv_has ls 7 [(5, .int (iZ (low))), (3, .long (lZ (md v))), (0, .ref h), (1, .long (lZ (v)))]), W p l e ({ frames := 2, cells := 0, slots := 0, locals := 45 } : Room) s m ([.ref h, .long (lZ (v))] : List Value).toArray below meth c H locs 0 0 (MQ below (va_Qv (fun _u : Unit => True) (fun (_u : Unit) t => wB (dC, dI) vC A [(h, .inr (0, [.ref a])), (a, .inl (cA, n, .inl (aR (shO n (md v) n f))))] t) A) ([.ref h, .long (lZ (v))] : List Value).toArray s 0 0 A) (F0 m 9 ls []) := by
    intro m_9
    induction m_9 with
    | zero =>
      intro low g0 hlow hg0 hinv hmeas
      exfalso; omega
    | succ m_9 ih_9 =>
      intro low g0 hlow hg0 hinv hmeas H locs hP hD hS ls hl
      refine lv_iload hx hb d_Row_shift_9 (lv_at hl 0 rfl) ?_
      refine lv_aload_n hx hb d_Row_shift_11 rfl (lv_at hl 2 rfl) ?_
      refine va_get (D := (dC, dI)) (ci := 0) (v := .ref a) (C := "OrderTwoCases$Row") (T := F_Row) (N := 1) hx hb hts la_Row hown hK hP 0 rfl rfl 0 (by decide) (hts _ k_35) (fun _ h9 => h9) rfl d_Row_shift_12 ?_
      refine z_alen hx hb hK hP 1 0 rfl rfl d_Row_shift_15 ?_
      refine z_icmp_ge (tgt := 72) hx hb d_Row_shift_16 (by decide) (by omega) (by omega) (fun c_16 => ?_) (fun c_16 => ?_)
      · have hz : (n : Int) - low = 0 := by omega
        rw [hz] at hinv
        exact w_vret (wn := fun _ => [(h, .inr (0, [.ref a])), (a, .inl (cA, n, .inl (aR (shO n (md v) n f))))]) hx hb hr hlocks () trivial (by rw [← hinv]; exact hP) (by rw [← hinv]; exact hD) hS d_Row_shift_72
      · refine lv_aload_n hx hb d_Row_shift_19 rfl (lv_at hl 2 rfl) ?_
        refine va_get (D := (dC, dI)) (ci := 0) (v := .ref a) (C := "OrderTwoCases$Row") (T := F_Row) (N := 1) hx hb hts la_Row hown hK hP 0 rfl rfl 0 (by decide) (hts _ k_35) (fun _ h9 => h9) rfl d_Row_shift_20 ?_
        refine z_alen hx hb hK hP 1 0 rfl rfl d_Row_shift_23 ?_
        refine lv_iconst (v := iZ (2)) hx hb d_Row_shift_24 rfl ?_
        refine z_isub hx hb d_Row_shift_25 ?_
        refine lv_istore (lv' := [(6, .int (iZ ((((n : Nat) : Int)) - 2))), (5, .int (iZ (low))), (3, .long (lZ (md v))), (0, .ref h), (1, .long (lZ (v)))]) hx hb d_Row_shift_26 hl (by decide) rfl (fun ls hl => ?_)
        have loop_28 : ∀ (m_28 : Nat) (i : Int) (g : Int → Int) (hi : low - 1 ≤ i ∧ i ≤ (n : Int) - 2) (hg : RoW n g) (hinv2 : shO n (md v) ((n : Int) - (low + 1)).toNat (shI low (md v) (i - low + 1).toNat g) = shO n (md v) ((n : Int) - low).toNat g0) (hmeas : i - low + 1 < (m_28 : Int)) (H : Heap) (locs : List Loc) (hP : va_P (dC, dI) vC [(h, .inr (0, [.ref a])), (a, .inl (cA, n, .inl (aR g)))] H) (hD : va_D A [(h, .inr (0, [.ref a])), (a, .inl (cA, n, .inl (aR g)))]) (hS : va_S A s.heap H locs) (ls : Array Slot) (hl : lv_has ls 7 [(6, .int (iZ (i))), (5, .int (iZ (low))), (3, .long (lZ (md v))), (0, .ref h), (1, .long (lZ (v)))]), W p l e ({ frames := 2, cells := 0, slots := 0, locals := 45 } : Room) s m ([.ref h, .long (lZ (v))] : List Value).toArray below meth c H locs 0 0 (MQ below (va_Qv (fun _u : Unit => True) (fun (_u : Unit) t => wB (dC, dI) vC A [(h, .inr (0, [.ref a])), (a, .inl (cA, n, .inl (aR (shO n (md v) n f))))] t) A) ([.ref h, .long (lZ (v))] : List Value).toArray s 0 0 A) (F0 m 28 ls []) := by
          intro m_28
          induction m_28 with
          | zero =>
            intro i g hi hg hinv2 hmeas
            exfalso; omega
          | succ m_28 ih_28 =>
            intro i g hi hg hinv2 hmeas H locs hP hD hS ls hl
            refine lv_iload hx hb d_Row_shift_28 (lv_at hl 0 rfl) ?_
            refine lv_iload hx hb d_Row_shift_30 (lv_at hl 1 rfl) ?_
            refine z_icmp_lt (tgt := 66) hx hb d_Row_shift_32 (by decide) (by omega) (by omega) (fun c_32 => ?_) (fun c_32 => ?_)
            · refine z_iinc (lv' := [(5, .int (iZ (low + 1))), (6, .int (iZ (i))), (3, .long (lZ (md v))), (0, .ref h), (1, .long (lZ (v)))]) hx hb d_Row_shift_66 hl (k := 1) rfl (by decide) rfl (fun ls hl => ?_)
              refine lv_goto (tgt := 9) hx hb d_Row_shift_69 (by decide) ?_
              exact ih_9 (low + 1) g (by omega) hg (by rw [← hinv, ← hinv2, show (i - low + 1).toNat = 0 by omega]; rfl) (by omega) _ _ hP hD hS ls (lv_sub hl [0, 2, 3, 4] rfl)
            · refine lv_aload_n hx hb d_Row_shift_35 rfl (lv_at hl 3 rfl) ?_
              refine lv_iload hx hb d_Row_shift_36 (lv_at hl 0 rfl) ?_
              refine lv_aload_n hx hb d_Row_shift_38 rfl (lv_at hl 3 rfl) ?_
              refine lv_iload hx hb d_Row_shift_39 (lv_at hl 0 rfl) ?_
              refine w_rdi (va_runV (As := [.int (iZ (i))]) (rest := [.int (iZ (i)), .ref h]) ⟨hx, hb, hml, hown, hts⟩ (c_get l dC dI cA h a n g hn hg i (by omega)) (cwV 1 hts g_Row_21 rfl rfl rfl (by decide +kernel) ⟨Nat.le_of_ble_eq_true rfl, Nat.le_of_ble_eq_true rfl⟩) (wR_preV hK hP [0] rfl [0, 1] rfl rfl rfl 0 rfl) rfl rfl hl.1 rfl (lv_room (Nat.le_of_ble_eq_true rfl)) d_Row_shift_41 ⟨Nat.le_of_ble_eq_true rfl, Nat.le_of_ble_eq_true rfl⟩) ?_
              have hg_41 : 0 ≤ g i ∧ g i < 32003 := (hg).r (i)
              refine z_i2l hx hb d_Row_shift_44 (by omega) ?_
              refine lv_lload_n hx hb d_Row_shift_45 rfl (lv_at hl 2 rfl) ?_
              refine lv_aload_n hx hb d_Row_shift_46 rfl (lv_at hl 3 rfl) ?_
              refine lv_iload hx hb d_Row_shift_47 (lv_at hl 0 rfl) ?_
              refine lv_iconst (v := iZ (1)) hx hb d_Row_shift_49 rfl ?_
              refine z_iadd hx hb d_Row_shift_50 ?_
              refine w_rdi (va_runV (As := [.int (iZ (i + 1))]) (rest := [.long (lZ (md v)), .long (lZ (g i)), .int (iZ (i)), .ref h]) ⟨hx, hb, hml, hown, hts⟩ (c_get l dC dI cA h a n g hn hg (i + 1) (by omega)) (cwV 1 hts g_Row_21 rfl rfl rfl (by decide +kernel) ⟨Nat.le_of_ble_eq_true rfl, Nat.le_of_ble_eq_true rfl⟩) (wR_preV hK hP [0] rfl [0, 1] rfl rfl rfl 0 rfl) rfl rfl hl.1 rfl (lv_room (Nat.le_of_ble_eq_true rfl)) d_Row_shift_51 ⟨Nat.le_of_ble_eq_true rfl, Nat.le_of_ble_eq_true rfl⟩) ?_
              have hg_51 : 0 ≤ g (i + 1) ∧ g (i + 1) < 32003 := (hg).r (i + 1)
              refine z_i2l hx hb d_Row_shift_54 (by omega) ?_
              refine z_lmul hx hb d_Row_shift_55 ?_
              refine z_ladd hx hb d_Row_shift_56 ?_
              refine w_callv (wn := fun (_u : Unit) => [(h, .inr (0, [.ref a])), (a, .inl (cA, n, .inl (aR (rset n g i (md ((g i) + ((md v) * (g (i + 1)))))))))]) (wf := fun (_u : Unit) => [(h, .inr (0, [.ref a])), (a, .inl (cA, n, .inl (aR (rset n g i (md ((g i) + ((md v) * (g (i + 1)))))))))]) (wr := []) (va_runV (As := [.int (iZ (i)), .long (lZ ((g i) + ((md v) * (g (i + 1)))))]) (rest := []) ⟨hx, hb, hml, hown, hts⟩ (c_set l dC dI cA H.size h a n g hn i ((g i) + ((md v) * (g (i + 1)))) (by omega) (by have := mul_bd (md_r v) (hg.r (i + 1)); omega)) (cwV 2 hts g_Row_25 rfl rfl rfl (by decide +kernel) ⟨Nat.le_of_ble_eq_true rfl, Nat.le_of_ble_eq_true rfl⟩) (wP_preV hK hP hD [0] rfl [0, 1] (by decide) rfl rfl rfl rfl 0 rfl) rfl rfl hl.1 rfl (lv_room (Nat.le_of_ble_eq_true rfl)) d_Row_shift_57 ⟨Nat.le_of_ble_eq_true rfl, Nat.le_of_ble_eq_true rfl⟩) hP hD hS hA [0, 1] [] [0, 1] rfl rfl (by decide) (by decide) (by decide) (fun _ => rfl) (fun _ => rfl) (fun _u H locs hw hP hD hS => ?_)
              have hP : va_P (dC, dI) vC [(h, .inr (0, [.ref a])), (a, .inl (cA, n, .inl (aR (rset n g i (md ((g i) + ((md v) * (g (i + 1)))))))))] H := hP
              have hD : va_D A [(h, .inr (0, [.ref a])), (a, .inl (cA, n, .inl (aR (rset n g i (md ((g i) + ((md v) * (g (i + 1)))))))))] := hD
              rw [rset_in ⟨by omega, by omega⟩] at hP hD
              refine z_iinc (lv' := [(6, .int (iZ (i + (-1)))), (5, .int (iZ (low))), (3, .long (lZ (md v))), (0, .ref h), (1, .long (lZ (v)))]) hx hb d_Row_shift_60 hl (k := 0) rfl (by decide) rfl (fun ls hl => ?_)
              refine lv_goto (tgt := 28) hx hb d_Row_shift_63 (by decide) ?_
              exact ih_28 (i + -1) (sT g i (md (g i + md v * g (i + 1)))) (by omega) (hg.sT (by omega) (md_r _)) (by rw [← hinv2]; exact sh_in (by omega)) (by omega) _ _ hP hD hS ls (lv_sub hl [0, 1, 2, 3, 4] rfl)
        exact loop_28 (n + 1) ((n : Int) - 2) g0 (by omega) hg0 (sh_open (by omega)) (by omega) _ _ hP hD hS ls (lv_sub hl [0, 1, 2, 3, 4] rfl)
  exact loop_9 (n + 1) 0 f (by omega) hf (by congr 1) (by omega) _ _ hP hD hS ls (lv_sub hl [0, 1, 2, 3] rfl)
