set_option maxHeartbeats 4000000 in
set_option maxRecDepth 100000 in
/-- Study.hasPair(k) -/
theorem c_hasPair (l : Launch) (dC : Nat → ClassId) (dI : Nat → Nat → Nat) (cA : ClassId) (x R0 w0 p0 q0 : Nat) (kd t0 t1 ct : Int) (k : Int) (hk : -2147483648 ≤ k ∧ k < 2147483648) (hct : 0 ≤ ct ∧ ct ≤ 2) : Met l y_Stu_hasPair w_Stu_hasPair ({ frames := 0, cells := 0, slots := 0, locals := 0 }) (va_Pc [.ref x, .int (iZ (k))] (wR (dC, dI) vC [] [(x, .inr (3, [.ref R0, .int (iZ (kd)), .int (iZ (t0)), .int (iZ (t1)), .int (iZ (ct)), .ref w0, .ref p0, .ref q0]))])) (vp_Si (fun r => r = iZ (if 0 ≤ k ∧ k < ct then 1 else 0))) 0 0 (fun _ => False) := by
  refine Met.ofW (cc := b_Stu_hasPair) (maxL := 2) (ret := (Option.some Jvm.ClassFile.FieldType.boolean)) (by decide) rfl ?_
  intro p e s m args below meth c s₁ B hml hv
  obtain ⟨rfl, hP, hK⟩ := hv
  have hx := B.exec
  have hb := B.bytes
  have hr := B.returns
  have hts : ∀ w ∈ tT, w.before _ s = true := fun w h => atoms_spec (ws := w_Stu_hasPair) B.pre w (List.mem_cons_of_mem _ h)
  have hown : s.vm.findClass "OrderTwoCases$Study" = some m.cls := findClass_of_methodNamed B.named
  have hlocks := B.notSynchronized
  have hl := lv_entry ([.ref x, .int (iZ (k))]) (n := 2) (Nat.le_of_ble_eq_true rfl)
  rw [lg_entry_eq]
  generalize (lg_sl ([.ref x, .int (iZ (k))]) ++ List.replicate (2 - (lg_sl ([.ref x, .int (iZ (k))])).length) Slot.unset).toArray = ls at hl ⊢
  have hl : lv_has ls 2 [(0, .ref x), (1, .int (iZ (k)))] := hl
  refine lv_iload_n hx hb d_Stu_hasPair_0 rfl (lv_at hl 1 rfl) ?_
  refine z_if_lt (tgt := 16) hx hb d_Stu_hasPair_1 (by decide) (by omega) (fun c_1 => ?_) (fun c_1 => ?_)
  · refine lv_iconst (v := iZ (0)) hx hb d_Stu_hasPair_16 rfl ?_
    exact w_retz hx hb hr rfl hlocks (by rw [if_neg (by omega)]) d_Stu_hasPair_17
  · refine lv_iload_n hx hb d_Stu_hasPair_4 rfl (lv_at hl 1 rfl) ?_
    refine lv_aload_n hx hb d_Stu_hasPair_5 rfl (lv_at hl 0 rfl) ?_
    refine va_get (D := (dC, dI)) (ci := 3) (v := .int (iZ (ct))) (C := "OrderTwoCases$Study") (T := F_Stu) (N := 8) hx hb hts la_Stu hown hK hP 0 rfl rfl 4 (by decide) (hts _ k_91) (fun _ h9 => h9) rfl d_Stu_hasPair_6 ?_
    refine z_icmp_ge (tgt := 16) hx hb d_Stu_hasPair_9 (by decide) (by omega) (by omega) (fun c_9 => ?_) (fun c_9 => ?_)
    · refine lv_iconst (v := iZ (0)) hx hb d_Stu_hasPair_16 rfl ?_
      exact w_retz hx hb hr rfl hlocks (by rw [if_neg (by omega)]) d_Stu_hasPair_17
    · refine lv_iconst (v := iZ (1)) hx hb d_Stu_hasPair_12 rfl ?_
      refine lv_goto (tgt := 17) hx hb d_Stu_hasPair_13 (by decide) ?_
      exact w_retz hx hb hr rfl hlocks (by rw [if_pos (by omega)]) d_Stu_hasPair_17

set_option maxHeartbeats 4000000 in
set_option maxRecDepth 100000 in
/-- Study.pair(k) -/
theorem c_pair (l : Launch) (dC : Nat → ClassId) (dI : Nat → Nat → Nat) (cA : ClassId) (x R0 w0 p0 q0 : Nat) (kd t0 t1 ct : Int) (k : Int) (hk : -2147483648 ≤ k ∧ k < 2147483648) : Met l y_Stu_pair w_Stu_pair ({ frames := 0, cells := 0, slots := 0, locals := 0 }) (va_Pc [.ref x, .int (iZ (k))] (wR (dC, dI) vC [] [(x, .inr (3, [.ref R0, .int (iZ (kd)), .int (iZ (t0)), .int (iZ (t1)), .int (iZ (ct)), .ref w0, .ref p0, .ref q0]))])) (va_Sr (fun k9 => k9 = (if k = 0 then p0 else q0)) (fun k9 => .ref k9)) 0 0 (fun _ => False) := by
  refine Met.ofW (cc := b_Stu_pair) (maxL := 2) (ret := (Option.some (Jvm.ClassFile.FieldType.object "OrderTwoCases$Pair"))) (by decide) rfl ?_
  intro p e s m args below meth c s₁ B hml hv
  obtain ⟨rfl, hP, hK⟩ := hv
  have hx := B.exec
  have hb := B.bytes
  have hr := B.returns
  have hts : ∀ w ∈ tT, w.before _ s = true := fun w h => atoms_spec (ws := w_Stu_pair) B.pre w (List.mem_cons_of_mem _ h)
  have hown : s.vm.findClass "OrderTwoCases$Study" = some m.cls := findClass_of_methodNamed B.named
  have hlocks := B.notSynchronized
  have hl := lv_entry ([.ref x, .int (iZ (k))]) (n := 2) (Nat.le_of_ble_eq_true rfl)
  rw [lg_entry_eq]
  generalize (lg_sl ([.ref x, .int (iZ (k))]) ++ List.replicate (2 - (lg_sl ([.ref x, .int (iZ (k))])).length) Slot.unset).toArray = ls at hl ⊢
  have hl : lv_has ls 2 [(0, .ref x), (1, .int (iZ (k)))] := hl
  refine lv_iload_n hx hb d_Stu_pair_0 rfl (lv_at hl 1 rfl) ?_
  refine z_if_ne (tgt := 11) hx hb d_Stu_pair_1 (by decide) (by omega) (fun c_1 => ?_) (fun c_1 => ?_)
  · refine lv_aload_n hx hb d_Stu_pair_11 rfl (lv_at hl 0 rfl) ?_
    refine va_get (D := (dC, dI)) (ci := 3) (v := .ref q0) (C := "OrderTwoCases$Study") (T := F_Stu) (N := 8) hx hb hts la_Stu hown hK hP 0 rfl rfl 7 (by decide) (hts _ k_95) (fun _ h9 => h9) rfl d_Stu_pair_12 ?_
    exact w_retr (r0 := if k = 0 then p0 else q0) hx hb hr (Or.inl ⟨_, rfl⟩) hlocks (if_neg c_1).symm d_Stu_pair_15
  · refine lv_aload_n hx hb d_Stu_pair_4 rfl (lv_at hl 0 rfl) ?_
    refine va_get (D := (dC, dI)) (ci := 3) (v := .ref p0) (C := "OrderTwoCases$Study") (T := F_Stu) (N := 8) hx hb hts la_Stu hown hK hP 0 rfl rfl 6 (by decide) (hts _ k_94) (fun _ h9 => h9) rfl d_Stu_pair_5 ?_
    refine lv_goto (tgt := 15) hx hb d_Stu_pair_8 (by decide) ?_
    exact w_retr (r0 := if k = 0 then p0 else q0) hx hb hr (Or.inl ⟨_, rfl⟩) hlocks (if_pos c_1).symm d_Stu_pair_15

set_option maxHeartbeats 4000000 in
set_option maxRecDepth 100000 in
/-- Study.fillRest(equation) -/
theorem c_fillRest (l : Launch) (dC : Nat → ClassId) (dI : Nat → Nat → Nat) (cA : ClassId) (sz : Nat) (x R0 w0 p0 q0 : Nat) (kd t0 t1 ct : Int) (R1 e0 e1 e2 e3 e4 : Nat) (r f g : Int → Int) (hr5 : RoW 5 r) (hf : RoW 3 f) (hg : RoW 5 g) : Met l y_Stu_fillRest w_Stu_fillRest ({ frames := 2, cells := 0, slots := 0, locals := 47 }) (va_Pc [.ref x, .ref e0] (wP (dC, dI) vC [(cA, .int)] [(x, .inr (3, [.ref R0, .int (iZ (kd)), .int (iZ (t0)), .int (iZ (t1)), .int (iZ (ct)), .ref w0, .ref p0, .ref q0])), (R0, .inr (0, [.ref R1])), (R1, .inl (cA, 5, .inl (aR r))), (e0, .inr (1, [.ref e1, .ref e3])), (e1, .inr (0, [.ref e2])), (e2, .inl (cA, 3, .inl (aR f))), (e3, .inr (0, [.ref e4])), (e4, .inl (cA, 5, .inl (aR g)))] sz)) (va_Qv (fun _u : Unit => True) (fun (_u : Unit) t => wB (dC, dI) vC (va_A [(x, .inr (3, [.ref R0, .int (iZ (kd)), .int (iZ (t0)), .int (iZ (t1)), .int (iZ (ct)), .ref w0, .ref p0, .ref q0])), (R0, .inr (0, [.ref R1])), (R1, .inl (cA, 5, .inl (aR r))), (e0, .inr (1, [.ref e1, .ref e3])), (e1, .inr (0, [.ref e2])), (e2, .inl (cA, 3, .inl (aR f))), (e3, .inr (0, [.ref e4])), (e4, .inl (cA, 5, .inl (aR g)))] sz) [(x, .inr (3, [.ref R0, .int (iZ (kd)), .int (iZ (t0)), .int (iZ (t1)), .int (iZ (ct)), .ref w0, .ref p0, .ref q0])), (R0, .inr (0, [.ref R1])), (R1, .inl (cA, 5, .inl (aR (rez f g)))), (e0, .inr (1, [.ref e1, .ref e3])), (e1, .inr (0, [.ref e2])), (e2, .inl (cA, 3, .inl (aR f))), (e3, .inr (0, [.ref e4])), (e4, .inl (cA, 5, .inl (aR g)))] t) (va_A [(x, .inr (3, [.ref R0, .int (iZ (kd)), .int (iZ (t0)), .int (iZ (t1)), .int (iZ (ct)), .ref w0, .ref p0, .ref q0])), (R0, .inr (0, [.ref R1])), (R1, .inl (cA, 5, .inl (aR r))), (e0, .inr (1, [.ref e1, .ref e3])), (e1, .inr (0, [.ref e2])), (e2, .inl (cA, 3, .inl (aR f))), (e3, .inr (0, [.ref e4])), (e4, .inl (cA, 5, .inl (aR g)))] sz)) 0 0 (va_A [(x, .inr (3, [.ref R0, .int (iZ (kd)), .int (iZ (t0)), .int (iZ (t1)), .int (iZ (ct)), .ref w0, .ref p0, .ref q0])), (R0, .inr (0, [.ref R1])), (R1, .inl (cA, 5, .inl (aR r))), (e0, .inr (1, [.ref e1, .ref e3])), (e1, .inr (0, [.ref e2])), (e2, .inl (cA, 3, .inl (aR f))), (e3, .inr (0, [.ref e4])), (e4, .inl (cA, 5, .inl (aR g)))] sz) := by
  refine Met.ofW (cc := b_Stu_fillRest) (maxL := 6) (ret := (Option.none : Option Jvm.ClassFile.FieldType)) (by decide) rfl ?_
  intro p e s m args below meth c s₁ B hml hv
  obtain ⟨rfl, hsz, hP, hK, hD0⟩ := hv
  have hx := B.exec
  have hb := B.bytes
  have hr := B.returns
  have hts : ∀ w ∈ tT, w.before _ s = true := fun w h => atoms_spec (ws := w_Stu_fillRest) B.pre w (List.mem_cons_of_mem _ h)
  have hown : s.vm.findClass "OrderTwoCases$Study" = some m.cls := findClass_of_methodNamed B.named
  have hlocks := B.notSynchronized
  subst hsz
  have hD := hD0.self (sz := s.heap.size)
  generalize hAe : va_A [(x, .inr (3, [.ref R0, .int (iZ (kd)), .int (iZ (t0)), .int (iZ (t1)), .int (iZ (ct)), .ref w0, .ref p0, .ref q0])), (R0, .inr (0, [.ref R1])), (R1, .inl (cA, 5, .inl (aR r))), (e0, .inr (1, [.ref e1, .ref e3])), (e1, .inr (0, [.ref e2])), (e2, .inl (cA, 3, .inl (aR f))), (e3, .inr (0, [.ref e4])), (e4, .inl (cA, 5, .inl (aR g)))] s.heap.size = A at hD ⊢
  have hA : ∀ q : Nat, s.heap.size ≤ q → A q := fun q h => by rw [← hAe]; exact Or.inr h
  have hS : va_S A s.heap s.heap [] := va_S.rf
  have hl := lv_entry ([.ref x, .ref e0]) (n := 6) (Nat.le_of_ble_eq_true rfl)
  rw [lg_entry_eq]
  generalize (lg_sl ([.ref x, .ref e0]) ++ List.replicate (6 - (lg_sl ([.ref x, .ref e0])).length) Slot.unset).toArray = ls at hl ⊢
  have hl : lv_has ls 6 [(0, .ref x), (1, .ref e0)] := hl
  refine lv_aload_n hx hb d_Stu_fillRest_0 rfl (lv_at hl 1 rfl) ?_
  refine va_get (D := (dC, dI)) (ci := 1) (v := .ref e1) (C := "OrderTwoCases$Operator") (T := F_Opr) (N := 2) hx hb hts la_Opr hown hK hP 3 rfl rfl 0 (by decide) (hts _ k_43) (fun _ h9 => h9) rfl d_Stu_fillRest_1 ?_
  refine lv_astore_n (lv' := [(2, .ref e1), (0, .ref x), (1, .ref e0)]) hx hb d_Stu_fillRest_4 rfl hl (by decide) rfl (fun ls hl => ?_)
  refine lv_iconst (v := iZ (0)) hx hb d_Stu_fillRest_5 rfl ?_
  refine lv_istore_n (lv' := [(3, .int (iZ (0))), (2, .ref e1), (0, .ref x), (1, .ref e0)]) hx hb d_Stu_fillRest_6 rfl hl (by decide) rfl (fun ls hl => ?_)
  have loop_7 : ∀ (m_7 : Nat) (i : Int) (hi : 0 ≤ i ∧ i ≤ 5) (hmeas : 5 - i < (m_7 : Int)) (H : Heap) (locs : List Loc) (hP : va_P (dC, dI) vC [(x, .inr (3, [.ref R0, .int (iZ (kd)), .int (iZ (t0)), .int (iZ (t1)), .int (iZ (ct)), .ref w0, .ref p0, .ref q0])), (R0, .inr (0, [.ref R1])), (R1, .inl (cA, 5, .inl (aR (fL (cuT 5 (fun i => md (8001 * tmz 3 f f i + 16002 * slz f i - g i))) r i)))), (e0, .inr (1, [.ref e1, .ref e3])), (e1, .inr (0, [.ref e2])), (e2, .inl (cA, 3, .inl (aR f))), (e3, .inr (0, [.ref e4])), (e4, .inl (cA, 5, .inl (aR g)))] H) (hD : va_D A [(x, .inr (3, [.ref R0, .int (iZ (kd)), .int (iZ (t0)), .int (iZ (t1)), .int (iZ (ct)), .ref w0, .ref p0, .ref q0])), (R0, .inr (0, [.ref R1])), (R1, .inl (cA, 5, .inl (aR (fL (cuT 5 (fun i => md (8001 * tmz 3 f f i + 16002 * slz f i - g i))) r i)))), (e0, .inr (1, [.ref e1, .ref e3])), (e1, .inr (0, [.ref e2])), (e2, .inl (cA, 3, .inl (aR f))), (e3, .inr (0, [.ref e4])), (e4, .inl (cA, 5, .inl (aR g)))]) (hS : va_S A s.heap H locs) (ls : Array Slot) (hl : lv_has ls 6 [(3, .int (iZ (i))), (2, .ref e1), (0, .ref x), (1, .ref e0)]), W p l e ({ frames := 2, cells := 0, slots := 0, locals := 47 } : Room) s m ([.ref x, .ref e0] : List Value).toArray below meth c H locs 0 0 (MQ below (va_Qv (fun _u : Unit => True) (fun (_u : Unit) t => wB (dC, dI) vC A [(x, .inr (3, [.ref R0, .int (iZ (kd)), .int (iZ (t0)), .int (iZ (t1)), .int (iZ (ct)), .ref w0, .ref p0, .ref q0])), (R0, .inr (0, [.ref R1])), (R1, .inl (cA, 5, .inl (aR (rez f g)))), (e0, .inr (1, [.ref e1, .ref e3])), (e1, .inr (0, [.ref e2])), (e2, .inl (cA, 3, .inl (aR f))), (e3, .inr (0, [.ref e4])), (e4, .inl (cA, 5, .inl (aR g)))] t) A) ([.ref x, .ref e0] : List Value).toArray s 0 0 A) (F0 m 7 ls []) := by
    intro m_7
    induction m_7 with
    | zero =>
      intro i hi hmeas
      exfalso; omega
    | succ m_7 ih_7 =>
      intro i hi hmeas H locs hP hD hS ls hl
      refine lv_iload_n hx hb d_Stu_fillRest_7 rfl (lv_at hl 0 rfl) ?_
      refine lv_iconst (v := iZ (4)) hx hb d_Stu_fillRest_8 rfl ?_
      refine z_icmp_gt (tgt := 61) hx hb d_Stu_fillRest_9 (by decide) (by omega) (by omega) (fun c_9 => ?_) (fun c_9 => ?_)
      · have hz : i = ((5 : Nat) : Int) := by omega
        rw [hz, fL_cut hr5] at hP hD
        exact w_vret (wn := fun _ => [(x, .inr (3, [.ref R0, .int (iZ (kd)), .int (iZ (t0)), .int (iZ (t1)), .int (iZ (ct)), .ref w0, .ref p0, .ref q0])), (R0, .inr (0, [.ref R1])), (R1, .inl (cA, 5, .inl (aR (rez f g)))), (e0, .inr (1, [.ref e1, .ref e3])), (e1, .inr (0, [.ref e2])), (e2, .inl (cA, 3, .inl (aR f))), (e3, .inr (0, [.ref e4])), (e4, .inl (cA, 5, .inl (aR g)))]) hx hb hr hlocks () trivial hP hD hS d_Stu_fillRest_61
      · refine lv_ldc2 (v := lZ (8001)) hx hb hown (show (Jvm.Cond.constantLong "OrderTwoCases$Study" 75 (lZ (8001))).before _ s = true from hts _ k_169) d_Stu_fillRest_12 ?_
        refine lv_aload_n hx hb d_Stu_fillRest_15 rfl (lv_at hl 1 rfl) ?_
        refine lv_aload_n hx hb d_Stu_fillRest_16 rfl (lv_at hl 1 rfl) ?_
        refine lv_iload_n hx hb d_Stu_fillRest_17 rfl (lv_at hl 0 rfl) ?_
        refine w_rdi (va_runV (As := [.ref e1, .int (iZ (i))]) (rest := [.long (lZ (8001))]) ⟨hx, hb, hml, hown, hts⟩ (c_timesAt l dC dI cA e1 e2 3 e1 e2 3 f f (by decide) (by decide) hf hf i (by omega)) (cwV 2 hts g_Stu_77 rfl rfl rfl (by decide +kernel) ⟨Nat.le_of_ble_eq_true rfl, Nat.le_of_ble_eq_true rfl⟩) (wR_preV hK hP [0] rfl [4, 5, 4, 5] rfl rfl rfl 4 rfl) rfl rfl hl.1 rfl (lv_room (Nat.le_of_ble_eq_true rfl)) d_Stu_fillRest_18 ⟨Nat.le_of_ble_eq_true rfl, Nat.le_of_ble_eq_true rfl⟩) ?_
        have hg_18 : 0 ≤ tmz 3 f f i ∧ tmz 3 f f i < 32003 := md_r _
        refine z_i2l hx hb d_Stu_fillRest_21 (by omega) ?_
        refine z_lmul hx hb d_Stu_fillRest_22 ?_
        refine lv_ldc2 (v := lZ (16002)) hx hb hown (show (Jvm.Cond.constantLong "OrderTwoCases$Study" 81 (lZ (16002))).before _ s = true from hts _ k_174) d_Stu_fillRest_23 ?_
        refine lv_aload_n hx hb d_Stu_fillRest_26 rfl (lv_at hl 1 rfl) ?_
        refine lv_iload_n hx hb d_Stu_fillRest_27 rfl (lv_at hl 0 rfl) ?_
        refine w_rdl (va_runV (As := [.int (iZ (i))]) (rest := [.long (lZ (16002)), .long (lZ (8001 * (tmz 3 f f i)))]) ⟨hx, hb, hml, hown, hts⟩ (c_slopeAt l dC dI cA e1 e2 3 f (by decide) hf i (by omega)) (cwV 1 hts g_Stu_83 rfl rfl rfl (by decide +kernel) ⟨Nat.le_of_ble_eq_true rfl, Nat.le_of_ble_eq_true rfl⟩) (wR_preV hK hP [0] rfl [4, 5] rfl rfl rfl 4 rfl) rfl rfl hl.1 rfl (lv_room (Nat.le_of_ble_eq_true rfl)) d_Stu_fillRest_28 ⟨Nat.le_of_ble_eq_true rfl, Nat.le_of_ble_eq_true rfl⟩) ?_
        have hg_28 : 0 ≤ slr f i ∧ slr f i ≤ 1312082 := slr_bd (by decide) hf _
        refine z_lmul hx hb d_Stu_fillRest_31 ?_
        refine z_ladd hx hb d_Stu_fillRest_32 ?_
        refine lv_lstore (lv' := [(4, .long (lZ ((8001 * (tmz 3 f f i)) + (16002 * (slr f i))))), (3, .int (iZ (i))), (2, .ref e1), (0, .ref x), (1, .ref e0)]) hx hb d_Stu_fillRest_33 hl (by decide) rfl (fun ls hl => ?_)
        refine lv_aload_n hx hb d_Stu_fillRest_35 rfl (lv_at hl 3 rfl) ?_
        refine va_get (D := (dC, dI)) (ci := 3) (v := .ref R0) (C := "OrderTwoCases$Study") (T := F_Stu) (N := 8) hx hb hts la_Stu hown hK hP 0 rfl rfl 0 (by decide) (hts _ k_83) (fun _ h9 => h9) rfl d_Stu_fillRest_36 ?_
        refine lv_iload_n hx hb d_Stu_fillRest_39 rfl (lv_at hl 1 rfl) ?_
        refine lv_lload hx hb d_Stu_fillRest_40 (lv_at hl 0 rfl) ?_
        refine lv_aload_n hx hb d_Stu_fillRest_42 rfl (lv_at hl 4 rfl) ?_
        refine va_get (D := (dC, dI)) (ci := 1) (v := .ref e3) (C := "OrderTwoCases$Operator") (T := F_Opr) (N := 2) hx hb hts la_Opr hown hK hP 3 rfl rfl 1 (by decide) (hts _ k_47) (fun _ h9 => h9) rfl d_Stu_fillRest_43 ?_
        refine lv_iload_n hx hb d_Stu_fillRest_46 rfl (lv_at hl 1 rfl) ?_
        refine w_rdi (va_runV (As := [.int (iZ (i))]) (rest := [.long (lZ ((8001 * (tmz 3 f f i)) + (16002 * (slr f i)))), .int (iZ (i)), .ref R0]) ⟨hx, hb, hml, hown, hts⟩ (c_get l dC dI cA e3 e4 5 g (by decide) hg i (by omega)) (cwV 1 hts g_Stu_54 rfl rfl rfl (by decide +kernel) ⟨Nat.le_of_ble_eq_true rfl, Nat.le_of_ble_eq_true rfl⟩) (wR_preV hK hP [0] rfl [6, 7] rfl rfl rfl 6 rfl) rfl rfl hl.1 rfl (lv_room (Nat.le_of_ble_eq_true rfl)) d_Stu_fillRest_47 ⟨Nat.le_of_ble_eq_true rfl, Nat.le_of_ble_eq_true rfl⟩) ?_
        have hg_47 : 0 ≤ g i ∧ g i < 32003 := (hg).r (i)
        refine z_i2l hx hb d_Stu_fillRest_50 (by omega) ?_
        refine z_lsub hx hb d_Stu_fillRest_51 ?_
        refine w_callv (wn := fun (_u : Unit) => [(R0, .inr (0, [.ref R1])), (R1, .inl (cA, 5, .inl (aR (rset 5 (fL (cuT 5 (fun i => md (8001 * tmz 3 f f i + 16002 * slz f i - g i))) r i) i (md (((8001 * (tmz 3 f f i)) + (16002 * (slr f i))) - (g i)))))))]) (wf := fun (_u : Unit) => [(x, .inr (3, [.ref R0, .int (iZ (kd)), .int (iZ (t0)), .int (iZ (t1)), .int (iZ (ct)), .ref w0, .ref p0, .ref q0])), (R0, .inr (0, [.ref R1])), (R1, .inl (cA, 5, .inl (aR (rset 5 (fL (cuT 5 (fun i => md (8001 * tmz 3 f f i + 16002 * slz f i - g i))) r i) i (md (((8001 * (tmz 3 f f i)) + (16002 * (slr f i))) - (g i))))))), (e0, .inr (1, [.ref e1, .ref e3])), (e1, .inr (0, [.ref e2])), (e2, .inl (cA, 3, .inl (aR f))), (e3, .inr (0, [.ref e4])), (e4, .inl (cA, 5, .inl (aR g)))]) (wr := [(x, .inr (3, [.ref R0, .int (iZ (kd)), .int (iZ (t0)), .int (iZ (t1)), .int (iZ (ct)), .ref w0, .ref p0, .ref q0])), (e0, .inr (1, [.ref e1, .ref e3])), (e1, .inr (0, [.ref e2])), (e2, .inl (cA, 3, .inl (aR f))), (e3, .inr (0, [.ref e4])), (e4, .inl (cA, 5, .inl (aR g)))]) (va_runV (As := [.int (iZ (i)), .long (lZ (((8001 * (tmz 3 f f i)) + (16002 * (slr f i))) - (g i)))]) (rest := []) ⟨hx, hb, hml, hown, hts⟩ (c_set l dC dI cA H.size R0 R1 5 (fL (cuT 5 (fun i => md (8001 * tmz 3 f f i + 16002 * slz f i - g i))) r i) (by decide) i (((8001 * (tmz 3 f f i)) + (16002 * (slr f i))) - (g i)) (by omega) (by omega)) (cwV 2 hts g_Stu_90 rfl rfl rfl (by decide +kernel) ⟨Nat.le_of_ble_eq_true rfl, Nat.le_of_ble_eq_true rfl⟩) (wP_preV hK hP hD [0] rfl [1, 2] (by decide) rfl rfl rfl rfl 1 rfl) rfl rfl hl.1 rfl (lv_room (Nat.le_of_ble_eq_true rfl)) d_Stu_fillRest_52 ⟨Nat.le_of_ble_eq_true rfl, Nat.le_of_ble_eq_true rfl⟩) hP hD hS hA [1, 2] [0, 3, 4, 5, 6, 7] [0, 6, 7, 1, 2, 3, 4, 5] rfl rfl (by decide) (by decide) (by decide) (fun _ => rfl) (fun _ => rfl) (fun _u H locs hw hP hD hS => ?_)
        have hP : va_P (dC, dI) vC [(x, .inr (3, [.ref R0, .int (iZ (kd)), .int (iZ (t0)), .int (iZ (t1)), .int (iZ (ct)), .ref w0, .ref p0, .ref q0])), (R0, .inr (0, [.ref R1])), (R1, .inl (cA, 5, .inl (aR (rset 5 (fL (cuT 5 (fun i => md (8001 * tmz 3 f f i + 16002 * slz f i - g i))) r i) i (md (((8001 * (tmz 3 f f i)) + (16002 * (slr f i))) - (g i))))))), (e0, .inr (1, [.ref e1, .ref e3])), (e1, .inr (0, [.ref e2])), (e2, .inl (cA, 3, .inl (aR f))), (e3, .inr (0, [.ref e4])), (e4, .inl (cA, 5, .inl (aR g)))] H := hP
        have hD : va_D A [(x, .inr (3, [.ref R0, .int (iZ (kd)), .int (iZ (t0)), .int (iZ (t1)), .int (iZ (ct)), .ref w0, .ref p0, .ref q0])), (R0, .inr (0, [.ref R1])), (R1, .inl (cA, 5, .inl (aR (rset 5 (fL (cuT 5 (fun i => md (8001 * tmz 3 f f i + 16002 * slz f i - g i))) r i) i (md (((8001 * (tmz 3 f f i)) + (16002 * (slr f i))) - (g i))))))), (e0, .inr (1, [.ref e1, .ref e3])), (e1, .inr (0, [.ref e2])), (e2, .inl (cA, 3, .inl (aR f))), (e3, .inr (0, [.ref e4])), (e4, .inl (cA, 5, .inl (aR g)))] := hD
        rw [rset_in ⟨by omega, by omega⟩, fL_st (i := i) (cuT 5 (fun i => md (8001 * tmz 3 f f i + 16002 * slz f i - g i))) r (by omega) ((re_at f i (tmz 3 f f i) (g i)).trans (cuT_in (n := 5) (g := (fun i => md (8001 * tmz 3 f f i + 16002 * slz f i - g i))) (k := i) ⟨by omega, by omega⟩).symm)] at hP hD
        refine z_iinc (lv' := [(3, .int (iZ (i + 1))), (4, .long (lZ ((8001 * (tmz 3 f f i)) + (16002 * (slr f i))))), (2, .ref e1), (0, .ref x), (1, .ref e0)]) hx hb d_Stu_fillRest_55 hl (k := 1) rfl (by decide) rfl (fun ls hl => ?_)
        refine lv_goto (tgt := 7) hx hb d_Stu_fillRest_58 (by decide) ?_
        exact ih_7 (i + 1) (by omega) (by omega) _ _ hP hD hS ls (lv_sub hl [0, 2, 3, 4] rfl)
  rw [← fL_0 (cuT 5 (fun i => md (8001 * tmz 3 f f i + 16002 * slz f i - g i))) r] at hP hD
  exact loop_7 6 0 (by omega) (by omega) _ _ hP hD hS ls (lv_sub hl [0, 1, 2, 3] rfl)

set_option maxHeartbeats 4000000 in
set_option maxRecDepth 100000 in
/-- Study.fillW(m, n) -/
theorem c_fillW (l : Launch) (dC : Nat → ClassId) (dI : Nat → Nat → Nat) (cA : ClassId) (sz : Nat) (x R0 w0 p0 q0 : Nat) (kd t0 t1 ct : Int) (R1 w1 : Nat) (r v : Int → Int) (mm n : Int) (hr5 : RoW 5 r) (hv : RoW 3 v) (hm : 0 ≤ mm ∧ mm < 32003) (hn : 0 ≤ n ∧ n ≤ 2) : Met l y_Stu_fillW w_Stu_fillW ({ frames := 3, cells := 0, slots := 0, locals := 68 }) (va_Pc [.ref x, .int (iZ (mm)), .int (iZ (n))] (wP (dC, dI) vC [(cA, .int)] [(x, .inr (3, [.ref R0, .int (iZ (kd)), .int (iZ (t0)), .int (iZ (t1)), .int (iZ (ct)), .ref w0, .ref p0, .ref q0])), (R0, .inr (0, [.ref R1])), (R1, .inl (cA, 5, .inl (aR r))), (w0, .inr (0, [.ref w1])), (w1, .inl (cA, 3, .inl (aR v)))] sz)) (va_Qv (fun _u : Unit => True) (fun (_u : Unit) t => wB (dC, dI) vC (va_A [(x, .inr (3, [.ref R0, .int (iZ (kd)), .int (iZ (t0)), .int (iZ (t1)), .int (iZ (ct)), .ref w0, .ref p0, .ref q0])), (R0, .inr (0, [.ref R1])), (R1, .inl (cA, 5, .inl (aR r))), (w0, .inr (0, [.ref w1])), (w1, .inl (cA, 3, .inl (aR v)))] sz) [(x, .inr (3, [.ref R0, .int (iZ (kd)), .int (iZ (t0)), .int (iZ (t1)), .int (iZ (ct)), .ref w0, .ref p0, .ref q0])), (R0, .inr (0, [.ref R1])), (R1, .inl (cA, 5, .inl (aR r))), (w0, .inr (0, [.ref w1])), (w1, .inl (cA, 3, .inl (aR (fwz r mm n))))] t) (va_A [(x, .inr (3, [.ref R0, .int (iZ (kd)), .int (iZ (t0)), .int (iZ (t1)), .int (iZ (ct)), .ref w0, .ref p0, .ref q0])), (R0, .inr (0, [.ref R1])), (R1, .inl (cA, 5, .inl (aR r))), (w0, .inr (0, [.ref w1])), (w1, .inl (cA, 3, .inl (aR v)))] sz)) 0 0 (va_A [(x, .inr (3, [.ref R0, .int (iZ (kd)), .int (iZ (t0)), .int (iZ (t1)), .int (iZ (ct)), .ref w0, .ref p0, .ref q0])), (R0, .inr (0, [.ref R1])), (R1, .inl (cA, 5, .inl (aR r))), (w0, .inr (0, [.ref w1])), (w1, .inl (cA, 3, .inl (aR v)))] sz) := by
  refine Met.ofW (cc := b_Stu_fillW) (maxL := 6) (ret := (Option.none : Option Jvm.ClassFile.FieldType)) (by decide) rfl ?_
  intro p e s m args below meth c s₁ B hml hv
  obtain ⟨rfl, hsz, hP, hK, hD0⟩ := hv
  have hx := B.exec
  have hb := B.bytes
  have hr := B.returns
  have hts : ∀ w ∈ tT, w.before _ s = true := fun w h => atoms_spec (ws := w_Stu_fillW) B.pre w (List.mem_cons_of_mem _ h)
  have hown : s.vm.findClass "OrderTwoCases$Study" = some m.cls := findClass_of_methodNamed B.named
  have hlocks := B.notSynchronized
  subst hsz
  have hD := hD0.self (sz := s.heap.size)
  generalize hAe : va_A [(x, .inr (3, [.ref R0, .int (iZ (kd)), .int (iZ (t0)), .int (iZ (t1)), .int (iZ (ct)), .ref w0, .ref p0, .ref q0])), (R0, .inr (0, [.ref R1])), (R1, .inl (cA, 5, .inl (aR r))), (w0, .inr (0, [.ref w1])), (w1, .inl (cA, 3, .inl (aR v)))] s.heap.size = A at hD ⊢
  have hA : ∀ q : Nat, s.heap.size ≤ q → A q := fun q h => by rw [← hAe]; exact Or.inr h
  have hS : va_S A s.heap s.heap [] := va_S.rf
  have hl := lv_entry ([.ref x, .int (iZ (mm)), .int (iZ (n))]) (n := 6) (Nat.le_of_ble_eq_true rfl)
  rw [lg_entry_eq]
  generalize (lg_sl ([.ref x, .int (iZ (mm)), .int (iZ (n))]) ++ List.replicate (6 - (lg_sl ([.ref x, .int (iZ (mm)), .int (iZ (n))])).length) Slot.unset).toArray = ls at hl ⊢
  have hl : lv_has ls 6 [(0, .ref x), (1, .int (iZ (mm))), (2, .int (iZ (n)))] := hl
  refine lv_aload_n hx hb d_Stu_fillW_0 rfl (lv_at hl 0 rfl) ?_
  refine va_get (D := (dC, dI)) (ci := 3) (v := .ref w0) (C := "OrderTwoCases$Study") (T := F_Stu) (N := 8) hx hb hts la_Stu hown hK hP 0 rfl rfl 5 (by decide) (hts _ k_93) (fun _ h9 => h9) rfl d_Stu_fillW_1 ?_
  refine w_callv (wn := fun (_u : Unit) => [(w0, .inr (0, [.ref w1])), (w1, .inl (cA, 3, .inl (aR (fun _ => 0))))]) (wf := fun (_u : Unit) => [(x, .inr (3, [.ref R0, .int (iZ (kd)), .int (iZ (t0)), .int (iZ (t1)), .int (iZ (ct)), .ref w0, .ref p0, .ref q0])), (R0, .inr (0, [.ref R1])), (R1, .inl (cA, 5, .inl (aR r))), (w0, .inr (0, [.ref w1])), (w1, .inl (cA, 3, .inl (aR (fun _ => 0))))]) (wr := [(x, .inr (3, [.ref R0, .int (iZ (kd)), .int (iZ (t0)), .int (iZ (t1)), .int (iZ (ct)), .ref w0, .ref p0, .ref q0])), (R0, .inr (0, [.ref R1])), (R1, .inl (cA, 5, .inl (aR r)))]) (va_runV (As := []) (rest := []) ⟨hx, hb, hml, hown, hts⟩ (c_wipe l dC dI cA s.heap.size w0 w1 3 v (by decide) hv) (cwV 0 hts g_Stu_94 rfl rfl rfl (by decide +kernel) ⟨Nat.le_of_ble_eq_true rfl, Nat.le_of_ble_eq_true rfl⟩) (wP_preV hK hP hD [0] rfl [3, 4] (by decide) rfl rfl rfl rfl 3 rfl) rfl rfl hl.1 rfl (lv_room (Nat.le_of_ble_eq_true rfl)) d_Stu_fillW_4 ⟨Nat.le_of_ble_eq_true rfl, Nat.le_of_ble_eq_true rfl⟩) hP hD hS hA [3, 4] [0, 1, 2] [0, 1, 2, 3, 4] rfl rfl (by decide) (by decide) (by decide) (fun _ => rfl) (fun _ => rfl) (fun _u H locs hw hP hD hS => ?_)
  have hP : va_P (dC, dI) vC [(x, .inr (3, [.ref R0, .int (iZ (kd)), .int (iZ (t0)), .int (iZ (t1)), .int (iZ (ct)), .ref w0, .ref p0, .ref q0])), (R0, .inr (0, [.ref R1])), (R1, .inl (cA, 5, .inl (aR r))), (w0, .inr (0, [.ref w1])), (w1, .inl (cA, 3, .inl (aR (fun _ => 0))))] H := hP
  have hD : va_D A [(x, .inr (3, [.ref R0, .int (iZ (kd)), .int (iZ (t0)), .int (iZ (t1)), .int (iZ (ct)), .ref w0, .ref p0, .ref q0])), (R0, .inr (0, [.ref R1])), (R1, .inl (cA, 5, .inl (aR r))), (w0, .inr (0, [.ref w1])), (w1, .inl (cA, 3, .inl (aR (fun _ => 0))))] := hD
  refine lv_aload_n hx hb d_Stu_fillW_7 rfl (lv_at hl 0 rfl) ?_
  refine va_get (D := (dC, dI)) (ci := 3) (v := .ref w0) (C := "OrderTwoCases$Study") (T := F_Stu) (N := 8) hx hb hts la_Stu hown hK hP 0 rfl rfl 5 (by decide) (hts _ k_93) (fun _ h9 => h9) rfl d_Stu_fillW_8 ?_
  refine lv_iload_n hx hb d_Stu_fillW_11 rfl (lv_at hl 2 rfl) ?_
  refine lv_iload_n hx hb d_Stu_fillW_12 rfl (lv_at hl 1 rfl) ?_
  refine z_i2l hx hb d_Stu_fillW_13 (by omega) ?_
  refine w_callv (wn := fun (_u : Unit) => [(w0, .inr (0, [.ref w1])), (w1, .inl (cA, 3, .inl (aR (rset 3 (fun _ => 0) n (md mm)))))]) (wf := fun (_u : Unit) => [(x, .inr (3, [.ref R0, .int (iZ (kd)), .int (iZ (t0)), .int (iZ (t1)), .int (iZ (ct)), .ref w0, .ref p0, .ref q0])), (R0, .inr (0, [.ref R1])), (R1, .inl (cA, 5, .inl (aR r))), (w0, .inr (0, [.ref w1])), (w1, .inl (cA, 3, .inl (aR (rset 3 (fun _ => 0) n (md mm)))))]) (wr := [(x, .inr (3, [.ref R0, .int (iZ (kd)), .int (iZ (t0)), .int (iZ (t1)), .int (iZ (ct)), .ref w0, .ref p0, .ref q0])), (R0, .inr (0, [.ref R1])), (R1, .inl (cA, 5, .inl (aR r)))]) (va_runV (As := [.int (iZ (n)), .long (lZ (mm))]) (rest := []) ⟨hx, hb, hml, hown, hts⟩ (c_set l dC dI cA H.size w0 w1 3 (fun _ => 0) (by decide) n mm (by omega) (by omega)) (cwV 2 hts g_Stu_90 rfl rfl rfl (by decide +kernel) ⟨Nat.le_of_ble_eq_true rfl, Nat.le_of_ble_eq_true rfl⟩) (wP_preV hK hP hD [0] rfl [3, 4] (by decide) rfl rfl rfl rfl 3 rfl) rfl rfl hl.1 rfl (lv_room (Nat.le_of_ble_eq_true rfl)) d_Stu_fillW_14 ⟨Nat.le_of_ble_eq_true rfl, Nat.le_of_ble_eq_true rfl⟩) hP hD hS hA [3, 4] [0, 1, 2] [0, 1, 2, 3, 4] rfl rfl (by decide) (by decide) (by decide) (fun _ => rfl) (fun _ => rfl) (fun _u H locs hw hP hD hS => ?_)
  have hP : va_P (dC, dI) vC [(x, .inr (3, [.ref R0, .int (iZ (kd)), .int (iZ (t0)), .int (iZ (t1)), .int (iZ (ct)), .ref w0, .ref p0, .ref q0])), (R0, .inr (0, [.ref R1])), (R1, .inl (cA, 5, .inl (aR r))), (w0, .inr (0, [.ref w1])), (w1, .inl (cA, 3, .inl (aR (rset 3 (fun _ => 0) n (md mm)))))] H := hP
  have hD : va_D A [(x, .inr (3, [.ref R0, .int (iZ (kd)), .int (iZ (t0)), .int (iZ (t1)), .int (iZ (ct)), .ref w0, .ref p0, .ref q0])), (R0, .inr (0, [.ref R1])), (R1, .inl (cA, 5, .inl (aR r))), (w0, .inr (0, [.ref w1])), (w1, .inl (cA, 3, .inl (aR (rset 3 (fun _ => 0) n (md mm)))))] := hD
  rw [rset_in ⟨by omega, by omega⟩, md_id hm] at hP hD
  refine lv_ldc2 (v := lZ (2)) hx hb hown (show (Jvm.Cond.constantLong "OrderTwoCases$Study" 130 (lZ (2))).before _ s = true from hts _ k_227) d_Stu_fillW_17 ?_
  refine lv_iload_n hx hb d_Stu_fillW_20 rfl (lv_at hl 1 rfl) ?_
  refine z_i2l hx hb d_Stu_fillW_21 (by omega) ?_
  refine z_lmul hx hb d_Stu_fillW_22 ?_
  refine w_rdi (va_runS (As := [.long (lZ (2 * mm))]) (rest := []) ⟨hx, hb, hml, hown, hts⟩ (c_of l (2 * mm) (by omega)) (va_cwS 1 hts g_Stu_112 rfl rfl rfl (by decide +kernel) ⟨Nat.le_of_ble_eq_true rfl, Nat.le_of_ble_eq_true rfl⟩) preEq rfl rfl hl.1 rfl (lv_room (Nat.le_of_ble_eq_true rfl)) d_Stu_fillW_23 ⟨Nat.le_of_ble_eq_true rfl, Nat.le_of_ble_eq_true rfl⟩) ?_
  refine w_rdi (va_runS (As := [.int (iZ (md (2 * mm)))]) (rest := []) ⟨hx, hb, hml, hown, hts⟩ (c_inverse l (md (2 * mm)) (by have := md_r (2 * mm); omega)) (va_cwS 1 hts g_Stu_116 rfl rfl rfl (by decide +kernel) ⟨Nat.le_of_ble_eq_true rfl, Nat.le_of_ble_eq_true rfl⟩) preEq rfl rfl hl.1 rfl (lv_room (Nat.le_of_ble_eq_true rfl)) d_Stu_fillW_26 ⟨Nat.le_of_ble_eq_true rfl, Nat.le_of_ble_eq_true rfl⟩) ?_
  refine z_i2l hx hb d_Stu_fillW_29 (by have := ivz_r (md (2 * mm)); omega) ?_
  refine lv_lstore_n (lv' := [(3, .long (lZ (ivz (md (2 * mm))))), (0, .ref x), (1, .int (iZ (mm))), (2, .int (iZ (n)))]) hx hb d_Stu_fillW_30 rfl hl (by decide) rfl (fun ls hl => ?_)
  refine lv_iload_n hx hb d_Stu_fillW_31 rfl (lv_at hl 3 rfl) ?_
  refine lv_iconst (v := iZ (1)) hx hb d_Stu_fillW_32 rfl ?_
  refine z_isub hx hb d_Stu_fillW_33 ?_
  refine lv_istore (lv' := [(5, .int (iZ (n - 1))), (3, .long (lZ (ivz (md (2 * mm))))), (0, .ref x), (1, .int (iZ (mm))), (2, .int (iZ (n)))]) hx hb d_Stu_fillW_34 hl (by decide) rfl (fun ls hl => ?_)
  have loop_36 : ∀ (m_36 : Nat) (k : Int) (y : Int → Int) (hk : -1 ≤ k ∧ k < n) (hy : RoW 3 y) (hinv : fwR r n (ivz (md (2 * mm))) (k + 1).toNat y = fwz r mm n) (hmeas : k + 1 < (m_36 : Int)) (H : Heap) (locs : List Loc) (hP : va_P (dC, dI) vC [(x, .inr (3, [.ref R0, .int (iZ (kd)), .int (iZ (t0)), .int (iZ (t1)), .int (iZ (ct)), .ref w0, .ref p0, .ref q0])), (R0, .inr (0, [.ref R1])), (R1, .inl (cA, 5, .inl (aR r))), (w0, .inr (0, [.ref w1])), (w1, .inl (cA, 3, .inl (aR y)))] H) (hD : va_D A [(x, .inr (3, [.ref R0, .int (iZ (kd)), .int (iZ (t0)), .int (iZ (t1)), .int (iZ (ct)), .ref w0, .ref p0, .ref q0])), (R0, .inr (0, [.ref R1])), (R1, .inl (cA, 5, .inl (aR r))), (w0, .inr (0, [.ref w1])), (w1, .inl (cA, 3, .inl (aR y)))]) (hS : va_S A s.heap H locs) (ls : Array Slot) (hl : lv_has ls 6 [(5, .int (iZ (k))), (3, .long (lZ (ivz (md (2 * mm))))), (0, .ref x), (1, .int (iZ (mm))), (2, .int (iZ (n)))]), W p l e ({ frames := 3, cells := 0, slots := 0, locals := 68 } : Room) s m ([.ref x, .int (iZ (mm)), .int (iZ (n))] : List Value).toArray below meth c H locs 0 0 (MQ below (va_Qv (fun _u : Unit => True) (fun (_u : Unit) t => wB (dC, dI) vC A [(x, .inr (3, [.ref R0, .int (iZ (kd)), .int (iZ (t0)), .int (iZ (t1)), .int (iZ (ct)), .ref w0, .ref p0, .ref q0])), (R0, .inr (0, [.ref R1])), (R1, .inl (cA, 5, .inl (aR r))), (w0, .inr (0, [.ref w1])), (w1, .inl (cA, 3, .inl (aR (fwz r mm n))))] t) A) ([.ref x, .int (iZ (mm)), .int (iZ (n))] : List Value).toArray s 0 0 A) (F0 m 36 ls []) := by
    intro m_36
    induction m_36 with
    | zero =>
      intro k y hk hy hinv hmeas
      exfalso; omega
    | succ m_36 ih_36 =>
      intro k y hk hy hinv hmeas H locs hP hD hS ls hl
      refine lv_iload hx hb d_Stu_fillW_36 (lv_at hl 0 rfl) ?_
      refine z_if_lt (tgt := 86) hx hb d_Stu_fillW_38 (by decide) (by omega) (fun c_38 => ?_) (fun c_38 => ?_)
      · have hz : (k + 1).toNat = 0 := by omega
        rw [hz] at hinv
        change y = _ at hinv
        subst hinv
        exact w_vret (wn := fun _ => [(x, .inr (3, [.ref R0, .int (iZ (kd)), .int (iZ (t0)), .int (iZ (t1)), .int (iZ (ct)), .ref w0, .ref p0, .ref q0])), (R0, .inr (0, [.ref R1])), (R1, .inl (cA, 5, .inl (aR r))), (w0, .inr (0, [.ref w1])), (w1, .inl (cA, 3, .inl (aR (fwz r mm n))))]) hx hb hr hlocks () trivial hP hD hS d_Stu_fillW_86
      · refine lv_aload_n hx hb d_Stu_fillW_41 rfl (lv_at hl 2 rfl) ?_
        refine va_get (D := (dC, dI)) (ci := 3) (v := .ref w0) (C := "OrderTwoCases$Study") (T := F_Stu) (N := 8) hx hb hts la_Stu hown hK hP 0 rfl rfl 5 (by decide) (hts _ k_93) (fun _ h9 => h9) rfl d_Stu_fillW_42 ?_
        refine lv_iload hx hb d_Stu_fillW_45 (lv_at hl 0 rfl) ?_
        refine lv_aload_n hx hb d_Stu_fillW_47 rfl (lv_at hl 2 rfl) ?_
        refine va_get (D := (dC, dI)) (ci := 3) (v := .ref R0) (C := "OrderTwoCases$Study") (T := F_Stu) (N := 8) hx hb hts la_Stu hown hK hP 0 rfl rfl 0 (by decide) (hts _ k_83) (fun _ h9 => h9) rfl d_Stu_fillW_48 ?_
        refine lv_iload_n hx hb d_Stu_fillW_51 rfl (lv_at hl 4 rfl) ?_
        refine lv_iload hx hb d_Stu_fillW_52 (lv_at hl 0 rfl) ?_
        refine z_iadd hx hb d_Stu_fillW_54 ?_
        refine w_rdi (va_runV (As := [.int (iZ (n + k))]) (rest := [.int (iZ (k)), .ref w0]) ⟨hx, hb, hml, hown, hts⟩ (c_get l dC dI cA R0 R1 5 r (by decide) hr5 (n + k) (by omega)) (cwV 1 hts g_Stu_54 rfl rfl rfl (by decide +kernel) ⟨Nat.le_of_ble_eq_true rfl, Nat.le_of_ble_eq_true rfl⟩) (wR_preV hK hP [0] rfl [1, 2] rfl rfl rfl 1 rfl) rfl rfl hl.1 rfl (lv_room (Nat.le_of_ble_eq_true rfl)) d_Stu_fillW_55 ⟨Nat.le_of_ble_eq_true rfl, Nat.le_of_ble_eq_true rfl⟩) ?_
        have hg_55 : 0 ≤ r (n + k) ∧ r (n + k) < 32003 := (hr5).r (n + k)
        refine lv_aload_n hx hb d_Stu_fillW_58 rfl (lv_at hl 2 rfl) ?_
        refine va_get (D := (dC, dI)) (ci := 3) (v := .ref w0) (C := "OrderTwoCases$Study") (T := F_Stu) (N := 8) hx hb hts la_Stu hown hK hP 0 rfl rfl 5 (by decide) (hts _ k_93) (fun _ h9 => h9) rfl d_Stu_fillW_59 ?_
        refine lv_aload_n hx hb d_Stu_fillW_62 rfl (lv_at hl 2 rfl) ?_
        refine va_get (D := (dC, dI)) (ci := 3) (v := .ref w0) (C := "OrderTwoCases$Study") (T := F_Stu) (N := 8) hx hb hts la_Stu hown hK hP 0 rfl rfl 5 (by decide) (hts _ k_93) (fun _ h9 => h9) rfl d_Stu_fillW_63 ?_
        refine lv_iload_n hx hb d_Stu_fillW_66 rfl (lv_at hl 4 rfl) ?_
        refine lv_iload hx hb d_Stu_fillW_67 (lv_at hl 0 rfl) ?_
        refine z_iadd hx hb d_Stu_fillW_69 ?_
        refine w_rdi (va_runV (As := [.ref w0, .int (iZ (n + k))]) (rest := [.int (iZ (r (n + k))), .int (iZ (k)), .ref w0]) ⟨hx, hb, hml, hown, hts⟩ (c_timesAt l dC dI cA w0 w1 3 w0 w1 3 y y (by decide) (by decide) hy hy (n + k) (by omega)) (cwV 2 hts g_Stu_77 rfl rfl rfl (by decide +kernel) ⟨Nat.le_of_ble_eq_true rfl, Nat.le_of_ble_eq_true rfl⟩) (wR_preV hK hP [0] rfl [3, 4, 3, 4] rfl rfl rfl 3 rfl) rfl rfl hl.1 rfl (lv_room (Nat.le_of_ble_eq_true rfl)) d_Stu_fillW_70 ⟨Nat.le_of_ble_eq_true rfl, Nat.le_of_ble_eq_true rfl⟩) ?_
        have hg_70 : 0 ≤ tmz 3 y y (n + k) ∧ tmz 3 y y (n + k) < 32003 := md_r _
        refine z_isub hx hb d_Stu_fillW_73 ?_
        refine z_i2l hx hb d_Stu_fillW_74 (by omega) ?_
        refine lv_lload_n hx hb d_Stu_fillW_75 rfl (lv_at hl 1 rfl) ?_
        refine z_lmul hx hb d_Stu_fillW_76 ?_
        refine w_callv (wn := fun (_u : Unit) => [(w0, .inr (0, [.ref w1])), (w1, .inl (cA, 3, .inl (aR (rset 3 y k (md (((r (n + k)) - (tmz 3 y y (n + k))) * (ivz (md (2 * mm)))))))))]) (wf := fun (_u : Unit) => [(x, .inr (3, [.ref R0, .int (iZ (kd)), .int (iZ (t0)), .int (iZ (t1)), .int (iZ (ct)), .ref w0, .ref p0, .ref q0])), (R0, .inr (0, [.ref R1])), (R1, .inl (cA, 5, .inl (aR r))), (w0, .inr (0, [.ref w1])), (w1, .inl (cA, 3, .inl (aR (rset 3 y k (md (((r (n + k)) - (tmz 3 y y (n + k))) * (ivz (md (2 * mm)))))))))]) (wr := [(x, .inr (3, [.ref R0, .int (iZ (kd)), .int (iZ (t0)), .int (iZ (t1)), .int (iZ (ct)), .ref w0, .ref p0, .ref q0])), (R0, .inr (0, [.ref R1])), (R1, .inl (cA, 5, .inl (aR r)))]) (va_runV (As := [.int (iZ (k)), .long (lZ (((r (n + k)) - (tmz 3 y y (n + k))) * (ivz (md (2 * mm)))))]) (rest := []) ⟨hx, hb, hml, hown, hts⟩ (c_set l dC dI cA H.size w0 w1 3 y (by decide) k (((r (n + k)) - (tmz 3 y y (n + k))) * (ivz (md (2 * mm)))) (by omega) (by have := fwm_bd hg_55 hg_70 (ivz_r (md (2 * mm))); omega)) (cwV 2 hts g_Stu_90 rfl rfl rfl (by decide +kernel) ⟨Nat.le_of_ble_eq_true rfl, Nat.le_of_ble_eq_true rfl⟩) (wP_preV hK hP hD [0] rfl [3, 4] (by decide) rfl rfl rfl rfl 3 rfl) rfl rfl hl.1 rfl (lv_room (Nat.le_of_ble_eq_true rfl)) d_Stu_fillW_77 ⟨Nat.le_of_ble_eq_true rfl, Nat.le_of_ble_eq_true rfl⟩) hP hD hS hA [3, 4] [0, 1, 2] [0, 1, 2, 3, 4] rfl rfl (by decide) (by decide) (by decide) (fun _ => rfl) (fun _ => rfl) (fun _u H locs hw hP hD hS => ?_)
        have hP : va_P (dC, dI) vC [(x, .inr (3, [.ref R0, .int (iZ (kd)), .int (iZ (t0)), .int (iZ (t1)), .int (iZ (ct)), .ref w0, .ref p0, .ref q0])), (R0, .inr (0, [.ref R1])), (R1, .inl (cA, 5, .inl (aR r))), (w0, .inr (0, [.ref w1])), (w1, .inl (cA, 3, .inl (aR (rset 3 y k (md (((r (n + k)) - (tmz 3 y y (n + k))) * (ivz (md (2 * mm)))))))))] H := hP
        have hD : va_D A [(x, .inr (3, [.ref R0, .int (iZ (kd)), .int (iZ (t0)), .int (iZ (t1)), .int (iZ (ct)), .ref w0, .ref p0, .ref q0])), (R0, .inr (0, [.ref R1])), (R1, .inl (cA, 5, .inl (aR r))), (w0, .inr (0, [.ref w1])), (w1, .inl (cA, 3, .inl (aR (rset 3 y k (md (((r (n + k)) - (tmz 3 y y (n + k))) * (ivz (md (2 * mm)))))))))] := hD
        rw [rset_in ⟨by omega, by omega⟩] at hP hD
        refine z_iinc (lv' := [(5, .int (iZ (k + (-1)))), (3, .long (lZ (ivz (md (2 * mm))))), (0, .ref x), (1, .int (iZ (mm))), (2, .int (iZ (n)))]) hx hb d_Stu_fillW_80 hl (k := 0) rfl (by decide) rfl (fun ls hl => ?_)
        refine lv_goto (tgt := 36) hx hb d_Stu_fillW_83 (by decide) ?_
        exact ih_36 (k + -1) (sT y k (md ((r (n + k) - tmz 3 y y (n + k)) * ivz (md (2 * mm))))) (by omega) (hy.sT (by omega) (md_r _)) (by rw [← hinv]; exact fw_step (by omega)) (by omega) _ _ hP hD hS ls (lv_sub hl [0, 1, 2, 3, 4] rfl)
  exact loop_36 4 (n - 1) (sT (fun _ => 0) n mm) (by omega) ((RoW.zero 3).sT (by omega) hm) (by unfold fwz; congr 1; omega) (by omega) _ _ hP hD hS ls (lv_sub hl [0, 1, 2, 3, 4] rfl)
