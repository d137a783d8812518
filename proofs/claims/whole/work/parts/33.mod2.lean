set_option maxHeartbeats 4000000 in
set_option maxRecDepth 100000 in
/-- thrown() -/
theorem c_thrown (l : Launch) (dC : Nat → ClassId) (dI : Nat → Nat → Nat) (cA cJ : ClassId) (ma : Nat → Nat) (f g rs ww mo dg pl sl lf tl rw rt : Int → Int) (cd td mn : Int) : Met l y_Mod_thrown w_Mod_thrown ({ frames := 0, cells := 0, slots := 0, locals := 0 }) (va_Pc [.ref ((ma 0))] (wR (dC, dI) vC [(cA, .int), (cJ, .long)] (mW cA cJ ma f g (rs, ww, mo, dg, pl, sl, lf, tl, rw, rt, cd, td, mn)))) (vp_Si (fun r => r = iZ cd)) 0 0 (fun _ => False) := by
  refine Met.ofW (cc := b_Mod_thrown) (maxL := 1) (ret := (Option.some Jvm.ClassFile.FieldType.int)) (by decide) rfl ?_
  intro p e s m args below meth c s₁ B hml hv
  obtain ⟨rfl, hP, hK⟩ := hv
  have hx := B.exec
  have hb := B.bytes
  have hr := B.returns
  have hts : ∀ w ∈ tT, w.before _ s = true := fun w h => atoms_spec (ws := w_Mod_thrown) B.pre w (List.mem_cons_of_mem _ h)
  have hown : s.vm.findClass "OrderTwoCasesModel" = some m.cls := findClass_of_methodNamed B.named
  have hlocks := B.notSynchronized
  have hl := lv_entry ([.ref ((ma 0))]) (n := 1) (Nat.le_of_ble_eq_true rfl)
  rw [lg_entry_eq]
  generalize (lg_sl ([.ref ((ma 0))]) ++ List.replicate (1 - (lg_sl ([.ref ((ma 0))])).length) Slot.unset).toArray = ls at hl ⊢
  have hl : lv_has ls 1 [(0, .ref ((ma 0)))] := hl
  have hP : va_P (dC, dI) vC [((ma 0), .inr (5, [.int (iZ (cd)), .ref ((ma 1)), .ref ((ma 2)), .ref ((ma 3)), .ref ((ma 4)), .ref ((ma 5)), .int (iZ (td)), .int (iZ (mn)), .ref ((ma 6)), .ref ((ma 7)), .ref ((ma 8)), .ref ((ma 9)), .ref ((ma 10)), .ref ((ma 11)), .ref ((ma 12))])), ((ma 1), .inl (cA, 3, .inl (aR f))), ((ma 2), .inl (cA, 5, .inl (aR g))), ((ma 3), .inl (cJ, 5, .inr (.inl (aL rs)))), ((ma 4), .inl (cJ, 3, .inr (.inl (aL ww)))), ((ma 5), .inl (cJ, 5, .inr (.inl (aL mo)))), ((ma 6), .inl (cA, 2, .inl (aR dg))), ((ma 7), .inl (cJ, 26, .inr (.inl (aL pl)))), ((ma 8), .inl (cJ, 6, .inr (.inl (aL sl)))), ((ma 9), .inl (cJ, 20, .inr (.inl (aL lf)))), ((ma 10), .inl (cJ, 13, .inr (.inl (aL tl)))), ((ma 11), .inl (cJ, 41, .inr (.inl (aL rw)))), ((ma 12), .inl (cA, 2, .inl (aR rt)))] s.heap := hP
  refine lv_aload_n hx hb d_Mod_thrown_0 rfl (lv_at hl 0 rfl) ?_
  refine va_get (D := (dC, dI)) (ci := 5) (v := .int (iZ (cd))) (C := "OrderTwoCasesModel") (T := F_Mod) (N := 15) hx hb hts la_Mod hown hK hP 0 rfl rfl 0 (by decide) (hts _ k_464) (fun _ h9 => h9) rfl d_Mod_thrown_1 ?_
  exact w_reti hx hb hr hlocks rfl d_Mod_thrown_4

set_option maxHeartbeats 4000000 in
set_option maxRecDepth 100000 in
/-- raise(k) -/
theorem c_mraise (l : Launch) (dC : Nat → ClassId) (dI : Nat → Nat → Nat) (cA cJ : ClassId) (sz : Nat) (ma : Nat → Nat) (f g rs ww mo dg pl sl lf tl rw rt : Int → Int) (cd td mn : Int) (k : Int) : Met l y_Mod_raise w_Mod_raise ({ frames := 0, cells := 0, slots := 0, locals := 0 }) (va_Pc [.ref ((ma 0)), .int (iZ (k))] (wP (dC, dI) vC [(cA, .int), (cJ, .long)] (mW cA cJ ma f g (rs, ww, mo, dg, pl, sl, lf, tl, rw, rt, cd, td, mn)) sz)) (va_Qi (fun (r9 : Int32) (u : MS) => r9 = iZ 0 ∧ u.2.2.2.2.2.2.2.2.2.2.1 = k) (fun (u : MS) t => wB (dC, dI) vC (va_A (mW cA cJ ma f g (rs, ww, mo, dg, pl, sl, lf, tl, rw, rt, cd, td, mn)) sz) (mW cA cJ ma f g u) t) (va_A (mW cA cJ ma f g (rs, ww, mo, dg, pl, sl, lf, tl, rw, rt, cd, td, mn)) sz)) 0 0 (va_A (mW cA cJ ma f g (rs, ww, mo, dg, pl, sl, lf, tl, rw, rt, cd, td, mn)) sz) := by
  refine Met.ofW (cc := b_Mod_raise) (maxL := 2) (ret := (Option.some Jvm.ClassFile.FieldType.int)) (by decide) rfl ?_
  intro p e s m args below meth c s₁ B hml hv
  obtain ⟨rfl, hsz, hP, hK, hD0⟩ := hv
  have hx := B.exec
  have hb := B.bytes
  have hr := B.returns
  have hts : ∀ w ∈ tT, w.before _ s = true := fun w h => atoms_spec (ws := w_Mod_raise) B.pre w (List.mem_cons_of_mem _ h)
  have hown : s.vm.findClass "OrderTwoCasesModel" = some m.cls := findClass_of_methodNamed B.named
  have hlocks := B.notSynchronized
  subst hsz
  have hD := hD0.self (sz := s.heap.size)
  generalize hAe : va_A (mW cA cJ ma f g (rs, ww, mo, dg, pl, sl, lf, tl, rw, rt, cd, td, mn)) s.heap.size = A at hD ⊢
  have hA : ∀ q : Nat, s.heap.size ≤ q → A q := fun q h => by rw [← hAe]; exact Or.inr h
  have hS : va_S A s.heap s.heap [] := va_S.rf
  have hl := lv_entry ([.ref ((ma 0)), .int (iZ (k))]) (n := 2) (Nat.le_of_ble_eq_true rfl)
  rw [lg_entry_eq]
  generalize (lg_sl ([.ref ((ma 0)), .int (iZ (k))]) ++ List.replicate (2 - (lg_sl ([.ref ((ma 0)), .int (iZ (k))])).length) Slot.unset).toArray = ls at hl ⊢
  have hl : lv_has ls 2 [(0, .ref ((ma 0))), (1, .int (iZ (k)))] := hl
  have hP : va_P (dC, dI) vC [((ma 0), .inr (5, [.int (iZ (cd)), .ref ((ma 1)), .ref ((ma 2)), .ref ((ma 3)), .ref ((ma 4)), .ref ((ma 5)), .int (iZ (td)), .int (iZ (mn)), .ref ((ma 6)), .ref ((ma 7)), .ref ((ma 8)), .ref ((ma 9)), .ref ((ma 10)), .ref ((ma 11)), .ref ((ma 12))])), ((ma 1), .inl (cA, 3, .inl (aR f))), ((ma 2), .inl (cA, 5, .inl (aR g))), ((ma 3), .inl (cJ, 5, .inr (.inl (aL rs)))), ((ma 4), .inl (cJ, 3, .inr (.inl (aL ww)))), ((ma 5), .inl (cJ, 5, .inr (.inl (aL mo)))), ((ma 6), .inl (cA, 2, .inl (aR dg))), ((ma 7), .inl (cJ, 26, .inr (.inl (aL pl)))), ((ma 8), .inl (cJ, 6, .inr (.inl (aL sl)))), ((ma 9), .inl (cJ, 20, .inr (.inl (aL lf)))), ((ma 10), .inl (cJ, 13, .inr (.inl (aL tl)))), ((ma 11), .inl (cJ, 41, .inr (.inl (aL rw)))), ((ma 12), .inl (cA, 2, .inl (aR rt)))] s.heap := hP
  have hD : va_D A [((ma 0), .inr (5, [.int (iZ (cd)), .ref ((ma 1)), .ref ((ma 2)), .ref ((ma 3)), .ref ((ma 4)), .ref ((ma 5)), .int (iZ (td)), .int (iZ (mn)), .ref ((ma 6)), .ref ((ma 7)), .ref ((ma 8)), .ref ((ma 9)), .ref ((ma 10)), .ref ((ma 11)), .ref ((ma 12))])), ((ma 1), .inl (cA, 3, .inl (aR f))), ((ma 2), .inl (cA, 5, .inl (aR g))), ((ma 3), .inl (cJ, 5, .inr (.inl (aL rs)))), ((ma 4), .inl (cJ, 3, .inr (.inl (aL ww)))), ((ma 5), .inl (cJ, 5, .inr (.inl (aL mo)))), ((ma 6), .inl (cA, 2, .inl (aR dg))), ((ma 7), .inl (cJ, 26, .inr (.inl (aL pl)))), ((ma 8), .inl (cJ, 6, .inr (.inl (aL sl)))), ((ma 9), .inl (cJ, 20, .inr (.inl (aL lf)))), ((ma 10), .inl (cJ, 13, .inr (.inl (aL tl)))), ((ma 11), .inl (cJ, 41, .inr (.inl (aL rw)))), ((ma 12), .inl (cA, 2, .inl (aR rt)))] := hD
  refine lv_aload_n hx hb d_Mod_raise_0 rfl (lv_at hl 0 rfl) ?_
  refine lv_iload_n hx hb d_Mod_raise_1 rfl (lv_at hl 1 rfl) ?_
  refine va_put (D := (dC, dI)) (ci := 5) (v := .int (iZ (k))) (ty := .int) (C := "OrderTwoCasesModel") (T := F_Mod) (N := 15) hx hb hts la_Mod t_Mod tok_Mod nm_Mod hown hK hP hD hS 0 rfl rfl 0 (by decide) (hts _ k_464) (fun _ h9 => h9) rfl (by decide +kernel) rfl rfl (Nat.le_of_ble_eq_true rfl) d_Mod_raise_2 (fun H locs hP hD hS => ?_)
  have hP : va_P (dC, dI) vC [((ma 0), .inr (5, [.int (iZ (k)), .ref ((ma 1)), .ref ((ma 2)), .ref ((ma 3)), .ref ((ma 4)), .ref ((ma 5)), .int (iZ (td)), .int (iZ (mn)), .ref ((ma 6)), .ref ((ma 7)), .ref ((ma 8)), .ref ((ma 9)), .ref ((ma 10)), .ref ((ma 11)), .ref ((ma 12))])), ((ma 1), .inl (cA, 3, .inl (aR f))), ((ma 2), .inl (cA, 5, .inl (aR g))), ((ma 3), .inl (cJ, 5, .inr (.inl (aL rs)))), ((ma 4), .inl (cJ, 3, .inr (.inl (aL ww)))), ((ma 5), .inl (cJ, 5, .inr (.inl (aL mo)))), ((ma 6), .inl (cA, 2, .inl (aR dg))), ((ma 7), .inl (cJ, 26, .inr (.inl (aL pl)))), ((ma 8), .inl (cJ, 6, .inr (.inl (aL sl)))), ((ma 9), .inl (cJ, 20, .inr (.inl (aL lf)))), ((ma 10), .inl (cJ, 13, .inr (.inl (aL tl)))), ((ma 11), .inl (cJ, 41, .inr (.inl (aL rw)))), ((ma 12), .inl (cA, 2, .inl (aR rt)))] H := hP
  have hD : va_D A [((ma 0), .inr (5, [.int (iZ (k)), .ref ((ma 1)), .ref ((ma 2)), .ref ((ma 3)), .ref ((ma 4)), .ref ((ma 5)), .int (iZ (td)), .int (iZ (mn)), .ref ((ma 6)), .ref ((ma 7)), .ref ((ma 8)), .ref ((ma 9)), .ref ((ma 10)), .ref ((ma 11)), .ref ((ma 12))])), ((ma 1), .inl (cA, 3, .inl (aR f))), ((ma 2), .inl (cA, 5, .inl (aR g))), ((ma 3), .inl (cJ, 5, .inr (.inl (aL rs)))), ((ma 4), .inl (cJ, 3, .inr (.inl (aL ww)))), ((ma 5), .inl (cJ, 5, .inr (.inl (aL mo)))), ((ma 6), .inl (cA, 2, .inl (aR dg))), ((ma 7), .inl (cJ, 26, .inr (.inl (aL pl)))), ((ma 8), .inl (cJ, 6, .inr (.inl (aL sl)))), ((ma 9), .inl (cJ, 20, .inr (.inl (aL lf)))), ((ma 10), .inl (cJ, 13, .inr (.inl (aL tl)))), ((ma 11), .inl (cJ, 41, .inr (.inl (aL rw)))), ((ma 12), .inl (cA, 2, .inl (aR rt)))] := hD
  refine lv_iconst (v := iZ (0)) hx hb d_Mod_raise_5 rfl ?_
  exact w_iret (post := fun (r9 : Int32) (u : MS) => r9 = iZ 0 ∧ u.2.2.2.2.2.2.2.2.2.2.1 = k) (wn := fun (u : MS) => mW cA cJ ma f g u) hx hb hr hlocks (rs, ww, mo, dg, pl, sl, lf, tl, rw, rt, k, td, mn) ⟨rfl, rfl⟩ hP hD hS d_Mod_raise_6

set_option maxHeartbeats 4000000 in
set_option maxRecDepth 100000 in
/-- put(0, k, z) -/
theorem c_mput0 (l : Launch) (dC : Nat → ClassId) (dI : Nat → Nat → Nat) (cA cJ : ClassId) (sz : Nat) (ma : Nat → Nat) (f g rs ww mo dg pl sl lf tl rw rt : Int → Int) (cd td mn : Int) (hf : RoW 3 f) (hg : RoW 5 g) (k z : Int) (hk : 0 ≤ k ∧ k ≤ 2) (hz : -9223372036854775808 ≤ z ∧ z < 9223372036854775808) : Met l y_Mod_put w_Mod_put ({ frames := 1, cells := 0, slots := 0, locals := 25 }) (va_Pc [.ref ((ma 0)), .int (iZ (0)), .int (iZ (k)), .long (lZ (z))] (wP (dC, dI) vC [(cA, .int), (cJ, .long)] (mW cA cJ ma f g (rs, ww, mo, dg, pl, sl, lf, tl, rw, rt, cd, td, mn)) sz)) (va_Qi (fun (r9 : Int32) (u : MS) => r9 = iZ (if md z = f k then 0 else 1) ∧ u.2.2.2.2.2.2.2.2.2.2.1 = 0) (fun (u : MS) t => wB (dC, dI) vC (va_A (mW cA cJ ma f g (rs, ww, mo, dg, pl, sl, lf, tl, rw, rt, cd, td, mn)) sz) (mW cA cJ ma (sT f k (md z)) g u) t) (va_A (mW cA cJ ma f g (rs, ww, mo, dg, pl, sl, lf, tl, rw, rt, cd, td, mn)) sz)) 0 0 (va_A (mW cA cJ ma f g (rs, ww, mo, dg, pl, sl, lf, tl, rw, rt, cd, td, mn)) sz) := by
  refine Met.ofW (cc := b_Mod_put) (maxL := 7) (ret := (Option.some Jvm.ClassFile.FieldType.boolean)) (by decide) rfl ?_
  intro p e s m args below meth c s₁ B hml hv
  obtain ⟨rfl, hsz, hP, hK, hD0⟩ := hv
  have hx := B.exec
  have hb := B.bytes
  have hr := B.returns
  have hts : ∀ w ∈ tT, w.before _ s = true := fun w h => atoms_spec (ws := w_Mod_put) B.pre w (List.mem_cons_of_mem _ h)
  have hown : s.vm.findClass "OrderTwoCasesModel" = some m.cls := findClass_of_methodNamed B.named
  have hlocks := B.notSynchronized
  subst hsz
  have hD := hD0.self (sz := s.heap.size)
  generalize hAe : va_A (mW cA cJ ma f g (rs, ww, mo, dg, pl, sl, lf, tl, rw, rt, cd, td, mn)) s.heap.size = A at hD ⊢
  have hA : ∀ q : Nat, s.heap.size ≤ q → A q := fun q h => by rw [← hAe]; exact Or.inr h
  have hS : va_S A s.heap s.heap [] := va_S.rf
  have hl := lv_entry ([.ref ((ma 0)), .int (iZ (0)), .int (iZ (k)), .long (lZ (z))]) (n := 7) (Nat.le_of_ble_eq_true rfl)
  rw [lg_entry_eq]
  generalize (lg_sl ([.ref ((ma 0)), .int (iZ (0)), .int (iZ (k)), .long (lZ (z))]) ++ List.replicate (7 - (lg_sl ([.ref ((ma 0)), .int (iZ (0)), .int (iZ (k)), .long (lZ (z))])).length) Slot.unset).toArray = ls at hl ⊢
  have hl : lv_has ls 7 [(0, .ref ((ma 0))), (1, .int (iZ (0))), (2, .int (iZ (k))), (3, .long (lZ (z)))] := hl
  have hP : va_P (dC, dI) vC [((ma 0), .inr (5, [.int (iZ (cd)), .ref ((ma 1)), .ref ((ma 2)), .ref ((ma 3)), .ref ((ma 4)), .ref ((ma 5)), .int (iZ (td)), .int (iZ (mn)), .ref ((ma 6)), .ref ((ma 7)), .ref ((ma 8)), .ref ((ma 9)), .ref ((ma 10)), .ref ((ma 11)), .ref ((ma 12))])), ((ma 1), .inl (cA, 3, .inl (aR f))), ((ma 2), .inl (cA, 5, .inl (aR g))), ((ma 3), .inl (cJ, 5, .inr (.inl (aL rs)))), ((ma 4), .inl (cJ, 3, .inr (.inl (aL ww)))), ((ma 5), .inl (cJ, 5, .inr (.inl (aL mo)))), ((ma 6), .inl (cA, 2, .inl (aR dg))), ((ma 7), .inl (cJ, 26, .inr (.inl (aL pl)))), ((ma 8), .inl (cJ, 6, .inr (.inl (aL sl)))), ((ma 9), .inl (cJ, 20, .inr (.inl (aL lf)))), ((ma 10), .inl (cJ, 13, .inr (.inl (aL tl)))), ((ma 11), .inl (cJ, 41, .inr (.inl (aL rw)))), ((ma 12), .inl (cA, 2, .inl (aR rt)))] s.heap := hP
  have hD : va_D A [((ma 0), .inr (5, [.int (iZ (cd)), .ref ((ma 1)), .ref ((ma 2)), .ref ((ma 3)), .ref ((ma 4)), .ref ((ma 5)), .int (iZ (td)), .int (iZ (mn)), .ref ((ma 6)), .ref ((ma 7)), .ref ((ma 8)), .ref ((ma 9)), .ref ((ma 10)), .ref ((ma 11)), .ref ((ma 12))])), ((ma 1), .inl (cA, 3, .inl (aR f))), ((ma 2), .inl (cA, 5, .inl (aR g))), ((ma 3), .inl (cJ, 5, .inr (.inl (aL rs)))), ((ma 4), .inl (cJ, 3, .inr (.inl (aL ww)))), ((ma 5), .inl (cJ, 5, .inr (.inl (aL mo)))), ((ma 6), .inl (cA, 2, .inl (aR dg))), ((ma 7), .inl (cJ, 26, .inr (.inl (aL pl)))), ((ma 8), .inl (cJ, 6, .inr (.inl (aL sl)))), ((ma 9), .inl (cJ, 20, .inr (.inl (aL lf)))), ((ma 10), .inl (cJ, 13, .inr (.inl (aL tl)))), ((ma 11), .inl (cJ, 41, .inr (.inl (aL rw)))), ((ma 12), .inl (cA, 2, .inl (aR rt)))] := hD
  refine lv_aload_n hx hb d_Mod_put_0 rfl (lv_at hl 0 rfl) ?_
  refine lv_iload_n hx hb d_Mod_put_1 rfl (lv_at hl 1 rfl) ?_
  refine z_i2l hx hb d_Mod_put_2 (by omega) ?_
  refine lv_lconst (v := lZ (0)) hx hb d_Mod_put_3 (by decide +kernel) ?_
  refine lv_lconst (v := lZ (1)) hx hb d_Mod_put_4 (by decide +kernel) ?_
  refine w_rdi (va_runS (As := [.long (lZ (0)), .long (lZ (0)), .long (lZ (1))]) (rest := [.ref ((ma 0))]) ⟨hx, hb, hml, hown, hts⟩ (c_min l 0 0 1 (by omega) (by omega) (by omega)) (va_cwS 3 hts g_Mod_53 rfl rfl rfl (by decide +kernel) ⟨Nat.le_of_ble_eq_true rfl, Nat.le_of_ble_eq_true rfl⟩) preEq rfl rfl hl.1 rfl (lv_room (Nat.le_of_ble_eq_true rfl)) d_Mod_put_5 ⟨Nat.le_of_ble_eq_true rfl, Nat.le_of_ble_eq_true rfl⟩) ?_
  rw [if_pos (show (0 : Int) ≤ 0 ∧ (0 : Int) ≤ 1 by omega)]
  refine z_if_ne (tgt := 15) hx hb d_Mod_put_8 (by decide) (by decide) (fun c_8 => ?_) (fun c_8 => ?_)
  · refine lv_iload_n hx hb d_Mod_put_15 rfl (lv_at hl 2 rfl) ?_
    refine z_i2l hx hb d_Mod_put_16 (by omega) ?_
    refine lv_lconst (v := lZ (0)) hx hb d_Mod_put_17 (by decide +kernel) ?_
    refine lv_iload_n hx hb d_Mod_put_18 rfl (lv_at hl 1 rfl) ?_
    refine z_if_ne (tgt := 28) hx hb d_Mod_put_19 (by decide) (by omega) (fun c_19 => ?_) (fun c_19 => ?_)
    · exfalso; omega
    · refine lv_ldc2 (v := lZ (2)) hx hb hown (show (Jvm.Cond.constantLong "OrderTwoCasesModel" 57 (lZ (2))).before _ s = true from hts _ k_522) d_Mod_put_22 ?_
      refine lv_goto (tgt := 31) hx hb d_Mod_put_25 (by decide) ?_
      refine w_rdi (va_runS (As := [.long (lZ (k)), .long (lZ (0)), .long (lZ (2))]) (rest := [.ref ((ma 0))]) ⟨hx, hb, hml, hown, hts⟩ (c_min l k 0 2 (by omega) (by omega) (by omega)) (va_cwS 3 hts g_Mod_53 rfl rfl rfl (by decide +kernel) ⟨Nat.le_of_ble_eq_true rfl, Nat.le_of_ble_eq_true rfl⟩) preEq rfl rfl hl.1 rfl (lv_room (Nat.le_of_ble_eq_true rfl)) d_Mod_put_31 ⟨Nat.le_of_ble_eq_true rfl, Nat.le_of_ble_eq_true rfl⟩) ?_
      rw [if_pos (show 0 ≤ k ∧ k ≤ 2 by omega)]
      refine z_if_ne (tgt := 41) hx hb d_Mod_put_34 (by decide) (by decide) (fun c_34 => ?_) (fun c_34 => ?_)
      · refine lv_iconst (v := iZ (0)) hx hb d_Mod_put_41 rfl ?_
        refine va_put (D := (dC, dI)) (ci := 5) (v := .int (iZ (0))) (ty := .int) (C := "OrderTwoCasesModel") (T := F_Mod) (N := 15) hx hb hts la_Mod t_Mod tok_Mod nm_Mod hown hK hP hD hS 0 rfl rfl 0 (by decide) (hts _ k_464) (fun _ h9 => h9) rfl (by decide +kernel) rfl rfl (Nat.le_of_ble_eq_true rfl) d_Mod_put_42 (fun H locs hP hD hS => ?_)
        have hP : va_P (dC, dI) vC [((ma 0), .inr (5, [.int (iZ (0)), .ref ((ma 1)), .ref ((ma 2)), .ref ((ma 3)), .ref ((ma 4)), .ref ((ma 5)), .int (iZ (td)), .int (iZ (mn)), .ref ((ma 6)), .ref ((ma 7)), .ref ((ma 8)), .ref ((ma 9)), .ref ((ma 10)), .ref ((ma 11)), .ref ((ma 12))])), ((ma 1), .inl (cA, 3, .inl (aR f))), ((ma 2), .inl (cA, 5, .inl (aR g))), ((ma 3), .inl (cJ, 5, .inr (.inl (aL rs)))), ((ma 4), .inl (cJ, 3, .inr (.inl (aL ww)))), ((ma 5), .inl (cJ, 5, .inr (.inl (aL mo)))), ((ma 6), .inl (cA, 2, .inl (aR dg))), ((ma 7), .inl (cJ, 26, .inr (.inl (aL pl)))), ((ma 8), .inl (cJ, 6, .inr (.inl (aL sl)))), ((ma 9), .inl (cJ, 20, .inr (.inl (aL lf)))), ((ma 10), .inl (cJ, 13, .inr (.inl (aL tl)))), ((ma 11), .inl (cJ, 41, .inr (.inl (aL rw)))), ((ma 12), .inl (cA, 2, .inl (aR rt)))] H := hP
        have hD : va_D A [((ma 0), .inr (5, [.int (iZ (0)), .ref ((ma 1)), .ref ((ma 2)), .ref ((ma 3)), .ref ((ma 4)), .ref ((ma 5)), .int (iZ (td)), .int (iZ (mn)), .ref ((ma 6)), .ref ((ma 7)), .ref ((ma 8)), .ref ((ma 9)), .ref ((ma 10)), .ref ((ma 11)), .ref ((ma 12))])), ((ma 1), .inl (cA, 3, .inl (aR f))), ((ma 2), .inl (cA, 5, .inl (aR g))), ((ma 3), .inl (cJ, 5, .inr (.inl (aL rs)))), ((ma 4), .inl (cJ, 3, .inr (.inl (aL ww)))), ((ma 5), .inl (cJ, 5, .inr (.inl (aL mo)))), ((ma 6), .inl (cA, 2, .inl (aR dg))), ((ma 7), .inl (cJ, 26, .inr (.inl (aL pl)))), ((ma 8), .inl (cJ, 6, .inr (.inl (aL sl)))), ((ma 9), .inl (cJ, 20, .inr (.inl (aL lf)))), ((ma 10), .inl (cJ, 13, .inr (.inl (aL tl)))), ((ma 11), .inl (cJ, 41, .inr (.inl (aL rw)))), ((ma 12), .inl (cA, 2, .inl (aR rt)))] := hD
        refine lv_aload_n hx hb d_Mod_put_45 rfl (lv_at hl 0 rfl) ?_
        refine va_get (D := (dC, dI)) (ci := 5) (v := .int (iZ (0))) (C := "OrderTwoCasesModel") (T := F_Mod) (N := 15) hx hb hts la_Mod hown hK hP 0 rfl rfl 0 (by decide) (hts _ k_464) (fun _ h9 => h9) rfl d_Mod_put_46 ?_
        refine z_if_le (tgt := 54) hx hb d_Mod_put_49 (by decide) (by omega) (fun c_49 => ?_) (fun c_49 => ?_)
        · refine lv_lload_n hx hb d_Mod_put_54 rfl (lv_at hl 3 rfl) ?_
          refine w_rdl (va_runS (As := [.long (lZ (z))]) (rest := []) ⟨hx, hb, hml, hown, hts⟩ (c_modulo l z hz) (va_cwS 1 hts g_Mod_61 rfl rfl rfl (by decide +kernel) ⟨Nat.le_of_ble_eq_true rfl, Nat.le_of_ble_eq_true rfl⟩) preEq rfl rfl hl.1 rfl (lv_room (Nat.le_of_ble_eq_true rfl)) d_Mod_put_55 ⟨Nat.le_of_ble_eq_true rfl, Nat.le_of_ble_eq_true rfl⟩) ?_
          have hm_55 := md_r z
          refine z_l2i hx hb d_Mod_put_58 ?_
          refine lv_istore (lv' := [(5, .int (iZ (md z))), (0, .ref ((ma 0))), (1, .int (iZ (0))), (2, .int (iZ (k))), (3, .long (lZ (z)))]) hx hb d_Mod_put_59 hl (by decide) rfl (fun ls hl => ?_)
          refine lv_iload_n hx hb d_Mod_put_61 rfl (lv_at hl 2 rfl) ?_
          refine z_if_ne (tgt := 74) hx hb d_Mod_put_62 (by decide) (by omega) (fun c_62 => ?_) (fun c_62 => ?_)
          · exfalso; omega
          · refine lv_aload_n hx hb d_Mod_put_65 rfl (lv_at hl 1 rfl) ?_
            refine va_get (D := (dC, dI)) (ci := 5) (v := .ref ((ma 1))) (C := "OrderTwoCasesModel") (T := F_Mod) (N := 15) hx hb hts la_Mod hown hK hP 0 rfl rfl 1 (by decide) (hts _ k_465) (fun _ h9 => h9) rfl d_Mod_put_66 ?_
            refine lv_iload_n hx hb d_Mod_put_69 rfl (lv_at hl 3 rfl) ?_
            refine z_iald hx hb hK hP 1 0 rfl rfl (by omega) (by omega) (by omega) d_Mod_put_70 ?_
            refine lv_goto (tgt := 80) hx hb d_Mod_put_71 (by decide) ?_
            have hmd := md_r z
            have hfk := hf.r k
            refine lv_istore (lv' := [(6, .int (iZ (f k))), (5, .int (iZ (md z))), (0, .ref ((ma 0))), (1, .int (iZ (0))), (2, .int (iZ (k))), (3, .long (lZ (z)))]) hx hb d_Mod_put_80 hl (by decide) rfl (fun ls hl => ?_)
            refine lv_iload_n hx hb d_Mod_put_82 rfl (lv_at hl 3 rfl) ?_
            refine z_if_ne (tgt := 97) hx hb d_Mod_put_83 (by decide) (by omega) (fun c_83 => ?_) (fun c_83 => ?_)
            · exfalso; omega
            · refine lv_aload_n hx hb d_Mod_put_86 rfl (lv_at hl 2 rfl) ?_
              refine va_get (D := (dC, dI)) (ci := 5) (v := .ref ((ma 1))) (C := "OrderTwoCasesModel") (T := F_Mod) (N := 15) hx hb hts la_Mod hown hK hP 0 rfl rfl 1 (by decide) (hts _ k_465) (fun _ h9 => h9) rfl d_Mod_put_87 ?_
              refine lv_iload_n hx hb d_Mod_put_90 rfl (lv_at hl 4 rfl) ?_
              refine lv_iload hx hb d_Mod_put_91 (lv_at hl 1 rfl) ?_
              refine z_iast (wf := [((ma 0), .inr (5, [.int (iZ (0)), .ref ((ma 1)), .ref ((ma 2)), .ref ((ma 3)), .ref ((ma 4)), .ref ((ma 5)), .int (iZ (td)), .int (iZ (mn)), .ref ((ma 6)), .ref ((ma 7)), .ref ((ma 8)), .ref ((ma 9)), .ref ((ma 10)), .ref ((ma 11)), .ref ((ma 12))])), ((ma 1), .inl (cA, 3, .inl (aR (sT f k (md z))))), ((ma 2), .inl (cA, 5, .inl (aR g))), ((ma 3), .inl (cJ, 5, .inr (.inl (aL rs)))), ((ma 4), .inl (cJ, 3, .inr (.inl (aL ww)))), ((ma 5), .inl (cJ, 5, .inr (.inl (aL mo)))), ((ma 6), .inl (cA, 2, .inl (aR dg))), ((ma 7), .inl (cJ, 26, .inr (.inl (aL pl)))), ((ma 8), .inl (cJ, 6, .inr (.inl (aL sl)))), ((ma 9), .inl (cJ, 20, .inr (.inl (aL lf)))), ((ma 10), .inl (cJ, 13, .inr (.inl (aL tl)))), ((ma 11), .inl (cJ, 41, .inr (.inl (aL rw)))), ((ma 12), .inl (cA, 2, .inl (aR rt)))]) hx hb hK hP hD hS 1 0 rfl rfl (by omega) (by omega) (by omega) d_Mod_put_93 rfl (fun H locs hP hD hS => ?_)
              refine lv_goto (tgt := 105) hx hb d_Mod_put_94 (by decide) ?_
              refine lv_iload hx hb d_Mod_put_105 (lv_at hl 0 rfl) ?_
              refine lv_iload hx hb d_Mod_put_107 (lv_at hl 1 rfl) ?_
              refine z_icmp_eq (tgt := 116) hx hb d_Mod_put_109 (by decide) (by omega) (by omega) (fun c_109 => ?_) (fun c_109 => ?_)
              · refine lv_iconst (v := iZ (0)) hx hb d_Mod_put_116 rfl ?_
                exact w_zret (post := fun (r9 : Int32) (u : MS) => r9 = iZ (if md z = f k then 0 else 1) ∧ u.2.2.2.2.2.2.2.2.2.2.1 = 0) (wn := fun (u : MS) => mW cA cJ ma (sT f k (md z)) g u) hx hb hr rfl hlocks (rs, ww, mo, dg, pl, sl, lf, tl, rw, rt, 0, td, mn) ⟨(by rw [if_pos c_109.symm]), rfl⟩ hP hD hS d_Mod_put_117
              · refine lv_iconst (v := iZ (1)) hx hb d_Mod_put_112 rfl ?_
                refine lv_goto (tgt := 117) hx hb d_Mod_put_113 (by decide) ?_
                exact w_zret (post := fun (r9 : Int32) (u : MS) => r9 = iZ (if md z = f k then 0 else 1) ∧ u.2.2.2.2.2.2.2.2.2.2.1 = 0) (wn := fun (u : MS) => mW cA cJ ma (sT f k (md z)) g u) hx hb hr rfl hlocks (rs, ww, mo, dg, pl, sl, lf, tl, rw, rt, 0, td, mn) ⟨(by rw [if_neg (fun q => c_109 q.symm)]), rfl⟩ hP hD hS d_Mod_put_117
        · exact absurd (show (0 : Int) ≤ 0 by decide) c_49
      · exact absurd c_34 (by decide)
  · exact absurd c_8 (by decide)

set_option maxHeartbeats 4000000 in
set_option maxRecDepth 100000 in
/-- put(1, k, z) -/
theorem c_mput1 (l : Launch) (dC : Nat → ClassId) (dI : Nat → Nat → Nat) (cA cJ : ClassId) (sz : Nat) (ma : Nat → Nat) (f g rs ww mo dg pl sl lf tl rw rt : Int → Int) (cd td mn : Int) (hf : RoW 3 f) (hg : RoW 5 g) (k z : Int) (hk : 0 ≤ k ∧ k ≤ 4) (hz : -9223372036854775808 ≤ z ∧ z < 9223372036854775808) : Met l y_Mod_put w_Mod_put ({ frames := 1, cells := 0, slots := 0, locals := 25 }) (va_Pc [.ref ((ma 0)), .int (iZ (1)), .int (iZ (k)), .long (lZ (z))] (wP (dC, dI) vC [(cA, .int), (cJ, .long)] (mW cA cJ ma f g (rs, ww, mo, dg, pl, sl, lf, tl, rw, rt, cd, td, mn)) sz)) (va_Qi (fun (r9 : Int32) (u : MS) => r9 = iZ (if md z = g k then 0 else 1) ∧ u.2.2.2.2.2.2.2.2.2.2.1 = 0) (fun (u : MS) t => wB (dC, dI) vC (va_A (mW cA cJ ma f g (rs, ww, mo, dg, pl, sl, lf, tl, rw, rt, cd, td, mn)) sz) (mW cA cJ ma f (sT g k (md z)) u) t) (va_A (mW cA cJ ma f g (rs, ww, mo, dg, pl, sl, lf, tl, rw, rt, cd, td, mn)) sz)) 0 0 (va_A (mW cA cJ ma f g (rs, ww, mo, dg, pl, sl, lf, tl, rw, rt, cd, td, mn)) sz) := by
  refine Met.ofW (cc := b_Mod_put) (maxL := 7) (ret := (Option.some Jvm.ClassFile.FieldType.boolean)) (by decide) rfl ?_
  intro p e s m args below meth c s₁ B hml hv
  obtain ⟨rfl, hsz, hP, hK, hD0⟩ := hv
  have hx := B.exec
  have hb := B.bytes
  have hr := B.returns
  have hts : ∀ w ∈ tT, w.before _ s = true := fun w h => atoms_spec (ws := w_Mod_put) B.pre w (List.mem_cons_of_mem _ h)
  have hown : s.vm.findClass "OrderTwoCasesModel" = some m.cls := findClass_of_methodNamed B.named
  have hlocks := B.notSynchronized
  subst hsz
  have hD := hD0.self (sz := s.heap.size)
  generalize hAe : va_A (mW cA cJ ma f g (rs, ww, mo, dg, pl, sl, lf, tl, rw, rt, cd, td, mn)) s.heap.size = A at hD ⊢
  have hA : ∀ q : Nat, s.heap.size ≤ q → A q := fun q h => by rw [← hAe]; exact Or.inr h
  have hS : va_S A s.heap s.heap [] := va_S.rf
  have hl := lv_entry ([.ref ((ma 0)), .int (iZ (1)), .int (iZ (k)), .long (lZ (z))]) (n := 7) (Nat.le_of_ble_eq_true rfl)
  rw [lg_entry_eq]
  generalize (lg_sl ([.ref ((ma 0)), .int (iZ (1)), .int (iZ (k)), .long (lZ (z))]) ++ List.replicate (7 - (lg_sl ([.ref ((ma 0)), .int (iZ (1)), .int (iZ (k)), .long (lZ (z))])).length) Slot.unset).toArray = ls at hl ⊢
  have hl : lv_has ls 7 [(0, .ref ((ma 0))), (1, .int (iZ (1))), (2, .int (iZ (k))), (3, .long (lZ (z)))] := hl
  have hP : va_P (dC, dI) vC [((ma 0), .inr (5, [.int (iZ (cd)), .ref ((ma 1)), .ref ((ma 2)), .ref ((ma 3)), .ref ((ma 4)), .ref ((ma 5)), .int (iZ (td)), .int (iZ (mn)), .ref ((ma 6)), .ref ((ma 7)), .ref ((ma 8)), .ref ((ma 9)), .ref ((ma 10)), .ref ((ma 11)), .ref ((ma 12))])), ((ma 1), .inl (cA, 3, .inl (aR f))), ((ma 2), .inl (cA, 5, .inl (aR g))), ((ma 3), .inl (cJ, 5, .inr (.inl (aL rs)))), ((ma 4), .inl (cJ, 3, .inr (.inl (aL ww)))), ((ma 5), .inl (cJ, 5, .inr (.inl (aL mo)))), ((ma 6), .inl (cA, 2, .inl (aR dg))), ((ma 7), .inl (cJ, 26, .inr (.inl (aL pl)))), ((ma 8), .inl (cJ, 6, .inr (.inl (aL sl)))), ((ma 9), .inl (cJ, 20, .inr (.inl (aL lf)))), ((ma 10), .inl (cJ, 13, .inr (.inl (aL tl)))), ((ma 11), .inl (cJ, 41, .inr (.inl (aL rw)))), ((ma 12), .inl (cA, 2, .inl (aR rt)))] s.heap := hP
  have hD : va_D A [((ma 0), .inr (5, [.int (iZ (cd)), .ref ((ma 1)), .ref ((ma 2)), .ref ((ma 3)), .ref ((ma 4)), .ref ((ma 5)), .int (iZ (td)), .int (iZ (mn)), .ref ((ma 6)), .ref ((ma 7)), .ref ((ma 8)), .ref ((ma 9)), .ref ((ma 10)), .ref ((ma 11)), .ref ((ma 12))])), ((ma 1), .inl (cA, 3, .inl (aR f))), ((ma 2), .inl (cA, 5, .inl (aR g))), ((ma 3), .inl (cJ, 5, .inr (.inl (aL rs)))), ((ma 4), .inl (cJ, 3, .inr (.inl (aL ww)))), ((ma 5), .inl (cJ, 5, .inr (.inl (aL mo)))), ((ma 6), .inl (cA, 2, .inl (aR dg))), ((ma 7), .inl (cJ, 26, .inr (.inl (aL pl)))), ((ma 8), .inl (cJ, 6, .inr (.inl (aL sl)))), ((ma 9), .inl (cJ, 20, .inr (.inl (aL lf)))), ((ma 10), .inl (cJ, 13, .inr (.inl (aL tl)))), ((ma 11), .inl (cJ, 41, .inr (.inl (aL rw)))), ((ma 12), .inl (cA, 2, .inl (aR rt)))] := hD
  refine lv_aload_n hx hb d_Mod_put_0 rfl (lv_at hl 0 rfl) ?_
  refine lv_iload_n hx hb d_Mod_put_1 rfl (lv_at hl 1 rfl) ?_
  refine z_i2l hx hb d_Mod_put_2 (by omega) ?_
  refine lv_lconst (v := lZ (0)) hx hb d_Mod_put_3 (by decide +kernel) ?_
  refine lv_lconst (v := lZ (1)) hx hb d_Mod_put_4 (by decide +kernel) ?_
  refine w_rdi (va_runS (As := [.long (lZ (1)), .long (lZ (0)), .long (lZ (1))]) (rest := [.ref ((ma 0))]) ⟨hx, hb, hml, hown, hts⟩ (c_min l 1 0 1 (by omega) (by omega) (by omega)) (va_cwS 3 hts g_Mod_53 rfl rfl rfl (by decide +kernel) ⟨Nat.le_of_ble_eq_true rfl, Nat.le_of_ble_eq_true rfl⟩) preEq rfl rfl hl.1 rfl (lv_room (Nat.le_of_ble_eq_true rfl)) d_Mod_put_5 ⟨Nat.le_of_ble_eq_true rfl, Nat.le_of_ble_eq_true rfl⟩) ?_
  rw [if_pos (show (0 : Int) ≤ 1 ∧ (1 : Int) ≤ 1 by omega)]
  refine z_if_ne (tgt := 15) hx hb d_Mod_put_8 (by decide) (by decide) (fun c_8 => ?_) (fun c_8 => ?_)
  · refine lv_iload_n hx hb d_Mod_put_15 rfl (lv_at hl 2 rfl) ?_
    refine z_i2l hx hb d_Mod_put_16 (by omega) ?_
    refine lv_lconst (v := lZ (0)) hx hb d_Mod_put_17 (by decide +kernel) ?_
    refine lv_iload_n hx hb d_Mod_put_18 rfl (lv_at hl 1 rfl) ?_
    refine z_if_ne (tgt := 28) hx hb d_Mod_put_19 (by decide) (by omega) (fun c_19 => ?_) (fun c_19 => ?_)
    · refine lv_ldc2 (v := lZ (4)) hx hb hown (show (Jvm.Cond.constantLong "OrderTwoCasesModel" 59 (lZ (4))).before _ s = true from hts _ k_523) d_Mod_put_28 ?_
      refine w_rdi (va_runS (As := [.long (lZ (k)), .long (lZ (0)), .long (lZ (4))]) (rest := [.ref ((ma 0))]) ⟨hx, hb, hml, hown, hts⟩ (c_min l k 0 4 (by omega) (by omega) (by omega)) (va_cwS 3 hts g_Mod_53 rfl rfl rfl (by decide +kernel) ⟨Nat.le_of_ble_eq_true rfl, Nat.le_of_ble_eq_true rfl⟩) preEq rfl rfl hl.1 rfl (lv_room (Nat.le_of_ble_eq_true rfl)) d_Mod_put_31 ⟨Nat.le_of_ble_eq_true rfl, Nat.le_of_ble_eq_true rfl⟩) ?_
      rw [if_pos (show 0 ≤ k ∧ k ≤ 4 by omega)]
      refine z_if_ne (tgt := 41) hx hb d_Mod_put_34 (by decide) (by decide) (fun c_34 => ?_) (fun c_34 => ?_)
      · refine lv_iconst (v := iZ (0)) hx hb d_Mod_put_41 rfl ?_
        refine va_put (D := (dC, dI)) (ci := 5) (v := .int (iZ (0))) (ty := .int) (C := "OrderTwoCasesModel") (T := F_Mod) (N := 15) hx hb hts la_Mod t_Mod tok_Mod nm_Mod hown hK hP hD hS 0 rfl rfl 0 (by decide) (hts _ k_464) (fun _ h9 => h9) rfl (by decide +kernel) rfl rfl (Nat.le_of_ble_eq_true rfl) d_Mod_put_42 (fun H locs hP hD hS => ?_)
        have hP : va_P (dC, dI) vC [((ma 0), .inr (5, [.int (iZ (0)), .ref ((ma 1)), .ref ((ma 2)), .ref ((ma 3)), .ref ((ma 4)), .ref ((ma 5)), .int (iZ (td)), .int (iZ (mn)), .ref ((ma 6)), .ref ((ma 7)), .ref ((ma 8)), .ref ((ma 9)), .ref ((ma 10)), .ref ((ma 11)), .ref ((ma 12))])), ((ma 1), .inl (cA, 3, .inl (aR f))), ((ma 2), .inl (cA, 5, .inl (aR g))), ((ma 3), .inl (cJ, 5, .inr (.inl (aL rs)))), ((ma 4), .inl (cJ, 3, .inr (.inl (aL ww)))), ((ma 5), .inl (cJ, 5, .inr (.inl (aL mo)))), ((ma 6), .inl (cA, 2, .inl (aR dg))), ((ma 7), .inl (cJ, 26, .inr (.inl (aL pl)))), ((ma 8), .inl (cJ, 6, .inr (.inl (aL sl)))), ((ma 9), .inl (cJ, 20, .inr (.inl (aL lf)))), ((ma 10), .inl (cJ, 13, .inr (.inl (aL tl)))), ((ma 11), .inl (cJ, 41, .inr (.inl (aL rw)))), ((ma 12), .inl (cA, 2, .inl (aR rt)))] H := hP
        have hD : va_D A [((ma 0), .inr (5, [.int (iZ (0)), .ref ((ma 1)), .ref ((ma 2)), .ref ((ma 3)), .ref ((ma 4)), .ref ((ma 5)), .int (iZ (td)), .int (iZ (mn)), .ref ((ma 6)), .ref ((ma 7)), .ref ((ma 8)), .ref ((ma 9)), .ref ((ma 10)), .ref ((ma 11)), .ref ((ma 12))])), ((ma 1), .inl (cA, 3, .inl (aR f))), ((ma 2), .inl (cA, 5, .inl (aR g))), ((ma 3), .inl (cJ, 5, .inr (.inl (aL rs)))), ((ma 4), .inl (cJ, 3, .inr (.inl (aL ww)))), ((ma 5), .inl (cJ, 5, .inr (.inl (aL mo)))), ((ma 6), .inl (cA, 2, .inl (aR dg))), ((ma 7), .inl (cJ, 26, .inr (.inl (aL pl)))), ((ma 8), .inl (cJ, 6, .inr (.inl (aL sl)))), ((ma 9), .inl (cJ, 20, .inr (.inl (aL lf)))), ((ma 10), .inl (cJ, 13, .inr (.inl (aL tl)))), ((ma 11), .inl (cJ, 41, .inr (.inl (aL rw)))), ((ma 12), .inl (cA, 2, .inl (aR rt)))] := hD
        refine lv_aload_n hx hb d_Mod_put_45 rfl (lv_at hl 0 rfl) ?_
        refine va_get (D := (dC, dI)) (ci := 5) (v := .int (iZ (0))) (C := "OrderTwoCasesModel") (T := F_Mod) (N := 15) hx hb hts la_Mod hown hK hP 0 rfl rfl 0 (by decide) (hts _ k_464) (fun _ h9 => h9) rfl d_Mod_put_46 ?_
        refine z_if_le (tgt := 54) hx hb d_Mod_put_49 (by decide) (by omega) (fun c_49 => ?_) (fun c_49 => ?_)
        · refine lv_lload_n hx hb d_Mod_put_54 rfl (lv_at hl 3 rfl) ?_
          refine w_rdl (va_runS (As := [.long (lZ (z))]) (rest := []) ⟨hx, hb, hml, hown, hts⟩ (c_modulo l z hz) (va_cwS 1 hts g_Mod_61 rfl rfl rfl (by decide +kernel) ⟨Nat.le_of_ble_eq_true rfl, Nat.le_of_ble_eq_true rfl⟩) preEq rfl rfl hl.1 rfl (lv_room (Nat.le_of_ble_eq_true rfl)) d_Mod_put_55 ⟨Nat.le_of_ble_eq_true rfl, Nat.le_of_ble_eq_true rfl⟩) ?_
          have hm_55 := md_r z
          refine z_l2i hx hb d_Mod_put_58 ?_
          refine lv_istore (lv' := [(5, .int (iZ (md z))), (0, .ref ((ma 0))), (1, .int (iZ (1))), (2, .int (iZ (k))), (3, .long (lZ (z)))]) hx hb d_Mod_put_59 hl (by decide) rfl (fun ls hl => ?_)
          refine lv_iload_n hx hb d_Mod_put_61 rfl (lv_at hl 2 rfl) ?_
          refine z_if_ne (tgt := 74) hx hb d_Mod_put_62 (by decide) (by omega) (fun c_62 => ?_) (fun c_62 => ?_)
          · refine lv_aload_n hx hb d_Mod_put_74 rfl (lv_at hl 1 rfl) ?_
            refine va_get (D := (dC, dI)) (ci := 5) (v := .ref ((ma 2))) (C := "OrderTwoCasesModel") (T := F_Mod) (N := 15) hx hb hts la_Mod hown hK hP 0 rfl rfl 2 (by decide) (hts _ k_466) (fun _ h9 => h9) rfl d_Mod_put_75 ?_
            refine lv_iload_n hx hb d_Mod_put_78 rfl (lv_at hl 3 rfl) ?_
            refine z_iald hx hb hK hP 2 0 rfl rfl (by omega) (by omega) (by omega) d_Mod_put_79 ?_
            have hmd := md_r z
            have hfk := hg.r k
            refine lv_istore (lv' := [(6, .int (iZ (g k))), (5, .int (iZ (md z))), (0, .ref ((ma 0))), (1, .int (iZ (1))), (2, .int (iZ (k))), (3, .long (lZ (z)))]) hx hb d_Mod_put_80 hl (by decide) rfl (fun ls hl => ?_)
            refine lv_iload_n hx hb d_Mod_put_82 rfl (lv_at hl 3 rfl) ?_
            refine z_if_ne (tgt := 97) hx hb d_Mod_put_83 (by decide) (by omega) (fun c_83 => ?_) (fun c_83 => ?_)
            · refine lv_aload_n hx hb d_Mod_put_97 rfl (lv_at hl 2 rfl) ?_
              refine va_get (D := (dC, dI)) (ci := 5) (v := .ref ((ma 2))) (C := "OrderTwoCasesModel") (T := F_Mod) (N := 15) hx hb hts la_Mod hown hK hP 0 rfl rfl 2 (by decide) (hts _ k_466) (fun _ h9 => h9) rfl d_Mod_put_98 ?_
              refine lv_iload_n hx hb d_Mod_put_101 rfl (lv_at hl 4 rfl) ?_
              refine lv_iload hx hb d_Mod_put_102 (lv_at hl 1 rfl) ?_
              refine z_iast (wf := [((ma 0), .inr (5, [.int (iZ (0)), .ref ((ma 1)), .ref ((ma 2)), .ref ((ma 3)), .ref ((ma 4)), .ref ((ma 5)), .int (iZ (td)), .int (iZ (mn)), .ref ((ma 6)), .ref ((ma 7)), .ref ((ma 8)), .ref ((ma 9)), .ref ((ma 10)), .ref ((ma 11)), .ref ((ma 12))])), ((ma 1), .inl (cA, 3, .inl (aR f))), ((ma 2), .inl (cA, 5, .inl (aR (sT g k (md z))))), ((ma 3), .inl (cJ, 5, .inr (.inl (aL rs)))), ((ma 4), .inl (cJ, 3, .inr (.inl (aL ww)))), ((ma 5), .inl (cJ, 5, .inr (.inl (aL mo)))), ((ma 6), .inl (cA, 2, .inl (aR dg))), ((ma 7), .inl (cJ, 26, .inr (.inl (aL pl)))), ((ma 8), .inl (cJ, 6, .inr (.inl (aL sl)))), ((ma 9), .inl (cJ, 20, .inr (.inl (aL lf)))), ((ma 10), .inl (cJ, 13, .inr (.inl (aL tl)))), ((ma 11), .inl (cJ, 41, .inr (.inl (aL rw)))), ((ma 12), .inl (cA, 2, .inl (aR rt)))]) hx hb hK hP hD hS 2 0 rfl rfl (by omega) (by omega) (by omega) d_Mod_put_104 rfl (fun H locs hP hD hS => ?_)
              refine lv_iload hx hb d_Mod_put_105 (lv_at hl 0 rfl) ?_
              refine lv_iload hx hb d_Mod_put_107 (lv_at hl 1 rfl) ?_
              refine z_icmp_eq (tgt := 116) hx hb d_Mod_put_109 (by decide) (by omega) (by omega) (fun c_109 => ?_) (fun c_109 => ?_)
              · refine lv_iconst (v := iZ (0)) hx hb d_Mod_put_116 rfl ?_
                exact w_zret (post := fun (r9 : Int32) (u : MS) => r9 = iZ (if md z = g k then 0 else 1) ∧ u.2.2.2.2.2.2.2.2.2.2.1 = 0) (wn := fun (u : MS) => mW cA cJ ma f (sT g k (md z)) u) hx hb hr rfl hlocks (rs, ww, mo, dg, pl, sl, lf, tl, rw, rt, 0, td, mn) ⟨(by rw [if_pos c_109.symm]), rfl⟩ hP hD hS d_Mod_put_117
              · refine lv_iconst (v := iZ (1)) hx hb d_Mod_put_112 rfl ?_
                refine lv_goto (tgt := 117) hx hb d_Mod_put_113 (by decide) ?_
                exact w_zret (post := fun (r9 : Int32) (u : MS) => r9 = iZ (if md z = g k then 0 else 1) ∧ u.2.2.2.2.2.2.2.2.2.2.1 = 0) (wn := fun (u : MS) => mW cA cJ ma f (sT g k (md z)) u) hx hb hr rfl hlocks (rs, ww, mo, dg, pl, sl, lf, tl, rw, rt, 0, td, mn) ⟨(by rw [if_neg (fun q => c_109 q.symm)]), rfl⟩ hP hD hS d_Mod_put_117
            · exfalso; omega
          · exfalso; omega
        · exact absurd (show (0 : Int) ≤ 0 by decide) c_49
      · exact absurd c_34 (by decide)
    · exfalso; omega
  · exact absurd c_8 (by decide)

set_option maxHeartbeats 4000000 in
set_option maxRecDepth 100000 in
/-- put, refused b1 -/
theorem c_mputb1 (l : Launch) (dC : Nat → ClassId) (dI : Nat → Nat → Nat) (cA cJ : ClassId) (sz : Nat) (ma : Nat → Nat) (f g rs ww mo dg pl sl lf tl rw rt : Int → Int) (cd td mn : Int) (x k z : Int) (hx9 : x < 0 ∨ 1 < x) (hx32 : -2147483648 ≤ x ∧ x < 2147483648) (hz : -9223372036854775808 ≤ z ∧ z < 9223372036854775808) : Met l y_Mod_put w_Mod_put ({ frames := 1, cells := 0, slots := 0, locals := 25 }) (va_Pc [.ref ((ma 0)), .int (iZ (x)), .int (iZ (k)), .long (lZ (z))] (wP (dC, dI) vC [(cA, .int), (cJ, .long)] (mW cA cJ ma f g (rs, ww, mo, dg, pl, sl, lf, tl, rw, rt, cd, td, mn)) sz)) (va_Qi (fun (r9 : Int32) (u : MS) => u.2.2.2.2.2.2.2.2.2.2.1 = 1) (fun (u : MS) t => wB (dC, dI) vC (va_A (mW cA cJ ma f g (rs, ww, mo, dg, pl, sl, lf, tl, rw, rt, cd, td, mn)) sz) (mW cA cJ ma f g u) t) (va_A (mW cA cJ ma f g (rs, ww, mo, dg, pl, sl, lf, tl, rw, rt, cd, td, mn)) sz)) 0 0 (va_A (mW cA cJ ma f g (rs, ww, mo, dg, pl, sl, lf, tl, rw, rt, cd, td, mn)) sz) := by
  refine Met.ofW (cc := b_Mod_put) (maxL := 7) (ret := (Option.some Jvm.ClassFile.FieldType.boolean)) (by decide) rfl ?_
  intro p e s m args below meth c s₁ B hml hv
  obtain ⟨rfl, hsz, hP, hK, hD0⟩ := hv
  have hx := B.exec
  have hb := B.bytes
  have hr := B.returns
  have hts : ∀ w ∈ tT, w.before _ s = true := fun w h => atoms_spec (ws := w_Mod_put) B.pre w (List.mem_cons_of_mem _ h)
  have hown : s.vm.findClass "OrderTwoCasesModel" = some m.cls := findClass_of_methodNamed B.named
  have hlocks := B.notSynchronized
  subst hsz
  have hD := hD0.self (sz := s.heap.size)
  generalize hAe : va_A (mW cA cJ ma f g (rs, ww, mo, dg, pl, sl, lf, tl, rw, rt, cd, td, mn)) s.heap.size = A at hD ⊢
  have hA : ∀ q : Nat, s.heap.size ≤ q → A q := fun q h => by rw [← hAe]; exact Or.inr h
  have hS : va_S A s.heap s.heap [] := va_S.rf
  have hl := lv_entry ([.ref ((ma 0)), .int (iZ (x)), .int (iZ (k)), .long (lZ (z))]) (n := 7) (Nat.le_of_ble_eq_true rfl)
  rw [lg_entry_eq]
  generalize (lg_sl ([.ref ((ma 0)), .int (iZ (x)), .int (iZ (k)), .long (lZ (z))]) ++ List.replicate (7 - (lg_sl ([.ref ((ma 0)), .int (iZ (x)), .int (iZ (k)), .long (lZ (z))])).length) Slot.unset).toArray = ls at hl ⊢
  have hl : lv_has ls 7 [(0, .ref ((ma 0))), (1, .int (iZ (x))), (2, .int (iZ (k))), (3, .long (lZ (z)))] := hl
  have hP : va_P (dC, dI) vC [((ma 0), .inr (5, [.int (iZ (cd)), .ref ((ma 1)), .ref ((ma 2)), .ref ((ma 3)), .ref ((ma 4)), .ref ((ma 5)), .int (iZ (td)), .int (iZ (mn)), .ref ((ma 6)), .ref ((ma 7)), .ref ((ma 8)), .ref ((ma 9)), .ref ((ma 10)), .ref ((ma 11)), .ref ((ma 12))])), ((ma 1), .inl (cA, 3, .inl (aR f))), ((ma 2), .inl (cA, 5, .inl (aR g))), ((ma 3), .inl (cJ, 5, .inr (.inl (aL rs)))), ((ma 4), .inl (cJ, 3, .inr (.inl (aL ww)))), ((ma 5), .inl (cJ, 5, .inr (.inl (aL mo)))), ((ma 6), .inl (cA, 2, .inl (aR dg))), ((ma 7), .inl (cJ, 26, .inr (.inl (aL pl)))), ((ma 8), .inl (cJ, 6, .inr (.inl (aL sl)))), ((ma 9), .inl (cJ, 20, .inr (.inl (aL lf)))), ((ma 10), .inl (cJ, 13, .inr (.inl (aL tl)))), ((ma 11), .inl (cJ, 41, .inr (.inl (aL rw)))), ((ma 12), .inl (cA, 2, .inl (aR rt)))] s.heap := hP
  have hD : va_D A [((ma 0), .inr (5, [.int (iZ (cd)), .ref ((ma 1)), .ref ((ma 2)), .ref ((ma 3)), .ref ((ma 4)), .ref ((ma 5)), .int (iZ (td)), .int (iZ (mn)), .ref ((ma 6)), .ref ((ma 7)), .ref ((ma 8)), .ref ((ma 9)), .ref ((ma 10)), .ref ((ma 11)), .ref ((ma 12))])), ((ma 1), .inl (cA, 3, .inl (aR f))), ((ma 2), .inl (cA, 5, .inl (aR g))), ((ma 3), .inl (cJ, 5, .inr (.inl (aL rs)))), ((ma 4), .inl (cJ, 3, .inr (.inl (aL ww)))), ((ma 5), .inl (cJ, 5, .inr (.inl (aL mo)))), ((ma 6), .inl (cA, 2, .inl (aR dg))), ((ma 7), .inl (cJ, 26, .inr (.inl (aL pl)))), ((ma 8), .inl (cJ, 6, .inr (.inl (aL sl)))), ((ma 9), .inl (cJ, 20, .inr (.inl (aL lf)))), ((ma 10), .inl (cJ, 13, .inr (.inl (aL tl)))), ((ma 11), .inl (cJ, 41, .inr (.inl (aL rw)))), ((ma 12), .inl (cA, 2, .inl (aR rt)))] := hD
  refine lv_aload_n hx hb d_Mod_put_0 rfl (lv_at hl 0 rfl) ?_
  refine lv_iload_n hx hb d_Mod_put_1 rfl (lv_at hl 1 rfl) ?_
  refine z_i2l hx hb d_Mod_put_2 (by omega) ?_
  refine lv_lconst (v := lZ (0)) hx hb d_Mod_put_3 (by decide +kernel) ?_
  refine lv_lconst (v := lZ (1)) hx hb d_Mod_put_4 (by decide +kernel) ?_
  refine w_rdi (va_runS (As := [.long (lZ (x)), .long (lZ (0)), .long (lZ (1))]) (rest := [.ref ((ma 0))]) ⟨hx, hb, hml, hown, hts⟩ (c_min l x 0 1 (by omega) (by omega) (by omega)) (va_cwS 3 hts g_Mod_53 rfl rfl rfl (by decide +kernel) ⟨Nat.le_of_ble_eq_true rfl, Nat.le_of_ble_eq_true rfl⟩) preEq rfl rfl hl.1 rfl (lv_room (Nat.le_of_ble_eq_true rfl)) d_Mod_put_5 ⟨Nat.le_of_ble_eq_true rfl, Nat.le_of_ble_eq_true rfl⟩) ?_
  rw [if_neg (show ¬ (0 ≤ x ∧ x ≤ 1) by omega)]
  refine z_if_ne (tgt := 15) hx hb d_Mod_put_8 (by decide) (by decide) (fun c_8 => ?_) (fun c_8 => ?_)
  · exact absurd rfl c_8
  · refine lv_iconst (v := iZ (1)) hx hb d_Mod_put_11 rfl ?_
    refine lv_goto (tgt := 42) hx hb d_Mod_put_12 (by decide) ?_
    refine va_put (D := (dC, dI)) (ci := 5) (v := .int (iZ (1))) (ty := .int) (C := "OrderTwoCasesModel") (T := F_Mod) (N := 15) hx hb hts la_Mod t_Mod tok_Mod nm_Mod hown hK hP hD hS 0 rfl rfl 0 (by decide) (hts _ k_464) (fun _ h9 => h9) rfl (by decide +kernel) rfl rfl (Nat.le_of_ble_eq_true rfl) d_Mod_put_42 (fun H locs hP hD hS => ?_)
    have hP : va_P (dC, dI) vC [((ma 0), .inr (5, [.int (iZ (1)), .ref ((ma 1)), .ref ((ma 2)), .ref ((ma 3)), .ref ((ma 4)), .ref ((ma 5)), .int (iZ (td)), .int (iZ (mn)), .ref ((ma 6)), .ref ((ma 7)), .ref ((ma 8)), .ref ((ma 9)), .ref ((ma 10)), .ref ((ma 11)), .ref ((ma 12))])), ((ma 1), .inl (cA, 3, .inl (aR f))), ((ma 2), .inl (cA, 5, .inl (aR g))), ((ma 3), .inl (cJ, 5, .inr (.inl (aL rs)))), ((ma 4), .inl (cJ, 3, .inr (.inl (aL ww)))), ((ma 5), .inl (cJ, 5, .inr (.inl (aL mo)))), ((ma 6), .inl (cA, 2, .inl (aR dg))), ((ma 7), .inl (cJ, 26, .inr (.inl (aL pl)))), ((ma 8), .inl (cJ, 6, .inr (.inl (aL sl)))), ((ma 9), .inl (cJ, 20, .inr (.inl (aL lf)))), ((ma 10), .inl (cJ, 13, .inr (.inl (aL tl)))), ((ma 11), .inl (cJ, 41, .inr (.inl (aL rw)))), ((ma 12), .inl (cA, 2, .inl (aR rt)))] H := hP
    have hD : va_D A [((ma 0), .inr (5, [.int (iZ (1)), .ref ((ma 1)), .ref ((ma 2)), .ref ((ma 3)), .ref ((ma 4)), .ref ((ma 5)), .int (iZ (td)), .int (iZ (mn)), .ref ((ma 6)), .ref ((ma 7)), .ref ((ma 8)), .ref ((ma 9)), .ref ((ma 10)), .ref ((ma 11)), .ref ((ma 12))])), ((ma 1), .inl (cA, 3, .inl (aR f))), ((ma 2), .inl (cA, 5, .inl (aR g))), ((ma 3), .inl (cJ, 5, .inr (.inl (aL rs)))), ((ma 4), .inl (cJ, 3, .inr (.inl (aL ww)))), ((ma 5), .inl (cJ, 5, .inr (.inl (aL mo)))), ((ma 6), .inl (cA, 2, .inl (aR dg))), ((ma 7), .inl (cJ, 26, .inr (.inl (aL pl)))), ((ma 8), .inl (cJ, 6, .inr (.inl (aL sl)))), ((ma 9), .inl (cJ, 20, .inr (.inl (aL lf)))), ((ma 10), .inl (cJ, 13, .inr (.inl (aL tl)))), ((ma 11), .inl (cJ, 41, .inr (.inl (aL rw)))), ((ma 12), .inl (cA, 2, .inl (aR rt)))] := hD
    refine lv_aload_n hx hb d_Mod_put_45 rfl (lv_at hl 0 rfl) ?_
    refine va_get (D := (dC, dI)) (ci := 5) (v := .int (iZ (1))) (C := "OrderTwoCasesModel") (T := F_Mod) (N := 15) hx hb hts la_Mod hown hK hP 0 rfl rfl 0 (by decide) (hts _ k_464) (fun _ h9 => h9) rfl d_Mod_put_46 ?_
    refine z_if_le (tgt := 54) hx hb d_Mod_put_49 (by decide) (by omega) (fun c_49 => ?_) (fun c_49 => ?_)
    · exact absurd c_49 (by decide)
    · refine lv_iconst (v := iZ (0)) hx hb d_Mod_put_52 rfl ?_
      exact w_zret (post := fun (_ : Int32) (u : MS) => u.2.2.2.2.2.2.2.2.2.2.1 = 1) (wn := fun (u : MS) => mW cA cJ ma f g u) hx hb hr rfl hlocks (rs, ww, mo, dg, pl, sl, lf, tl, rw, rt, 1, td, mn) rfl hP hD hS d_Mod_put_53

set_option maxHeartbeats 4000000 in
set_option maxRecDepth 100000 in
/-- put, refused b2 -/
theorem c_mputb2 (l : Launch) (dC : Nat → ClassId) (dI : Nat → Nat → Nat) (cA cJ : ClassId) (sz : Nat) (ma : Nat → Nat) (f g rs ww mo dg pl sl lf tl rw rt : Int → Int) (cd td mn : Int) (x k z : Int) (hx9 : x = 0 ∨ x = 1) (hk9 : k < 0 ∨ (if x = 0 then 2 else 4) < k) (hk32 : -2147483648 ≤ k ∧ k < 2147483648) (hz : -9223372036854775808 ≤ z ∧ z < 9223372036854775808) : Met l y_Mod_put w_Mod_put ({ frames := 1, cells := 0, slots := 0, locals := 25 }) (va_Pc [.ref ((ma 0)), .int (iZ (x)), .int (iZ (k)), .long (lZ (z))] (wP (dC, dI) vC [(cA, .int), (cJ, .long)] (mW cA cJ ma f g (rs, ww, mo, dg, pl, sl, lf, tl, rw, rt, cd, td, mn)) sz)) (va_Qi (fun (r9 : Int32) (u : MS) => u.2.2.2.2.2.2.2.2.2.2.1 = 2) (fun (u : MS) t => wB (dC, dI) vC (va_A (mW cA cJ ma f g (rs, ww, mo, dg, pl, sl, lf, tl, rw, rt, cd, td, mn)) sz) (mW cA cJ ma f g u) t) (va_A (mW cA cJ ma f g (rs, ww, mo, dg, pl, sl, lf, tl, rw, rt, cd, td, mn)) sz)) 0 0 (va_A (mW cA cJ ma f g (rs, ww, mo, dg, pl, sl, lf, tl, rw, rt, cd, td, mn)) sz) := by
  refine Met.ofW (cc := b_Mod_put) (maxL := 7) (ret := (Option.some Jvm.ClassFile.FieldType.boolean)) (by decide) rfl ?_
  intro p e s m args below meth c s₁ B hml hv
  obtain ⟨rfl, hsz, hP, hK, hD0⟩ := hv
  have hx := B.exec
  have hb := B.bytes
  have hr := B.returns
  have hts : ∀ w ∈ tT, w.before _ s = true := fun w h => atoms_spec (ws := w_Mod_put) B.pre w (List.mem_cons_of_mem _ h)
  have hown : s.vm.findClass "OrderTwoCasesModel" = some m.cls := findClass_of_methodNamed B.named
  have hlocks := B.notSynchronized
  subst hsz
  have hD := hD0.self (sz := s.heap.size)
  generalize hAe : va_A (mW cA cJ ma f g (rs, ww, mo, dg, pl, sl, lf, tl, rw, rt, cd, td, mn)) s.heap.size = A at hD ⊢
  have hA : ∀ q : Nat, s.heap.size ≤ q → A q := fun q h => by rw [← hAe]; exact Or.inr h
  have hS : va_S A s.heap s.heap [] := va_S.rf
  have hl := lv_entry ([.ref ((ma 0)), .int (iZ (x)), .int (iZ (k)), .long (lZ (z))]) (n := 7) (Nat.le_of_ble_eq_true rfl)
  rw [lg_entry_eq]
  generalize (lg_sl ([.ref ((ma 0)), .int (iZ (x)), .int (iZ (k)), .long (lZ (z))]) ++ List.replicate (7 - (lg_sl ([.ref ((ma 0)), .int (iZ (x)), .int (iZ (k)), .long (lZ (z))])).length) Slot.unset).toArray = ls at hl ⊢
  have hl : lv_has ls 7 [(0, .ref ((ma 0))), (1, .int (iZ (x))), (2, .int (iZ (k))), (3, .long (lZ (z)))] := hl
  have hP : va_P (dC, dI) vC [((ma 0), .inr (5, [.int (iZ (cd)), .ref ((ma 1)), .ref ((ma 2)), .ref ((ma 3)), .ref ((ma 4)), .ref ((ma 5)), .int (iZ (td)), .int (iZ (mn)), .ref ((ma 6)), .ref ((ma 7)), .ref ((ma 8)), .ref ((ma 9)), .ref ((ma 10)), .ref ((ma 11)), .ref ((ma 12))])), ((ma 1), .inl (cA, 3, .inl (aR f))), ((ma 2), .inl (cA, 5, .inl (aR g))), ((ma 3), .inl (cJ, 5, .inr (.inl (aL rs)))), ((ma 4), .inl (cJ, 3, .inr (.inl (aL ww)))), ((ma 5), .inl (cJ, 5, .inr (.inl (aL mo)))), ((ma 6), .inl (cA, 2, .inl (aR dg))), ((ma 7), .inl (cJ, 26, .inr (.inl (aL pl)))), ((ma 8), .inl (cJ, 6, .inr (.inl (aL sl)))), ((ma 9), .inl (cJ, 20, .inr (.inl (aL lf)))), ((ma 10), .inl (cJ, 13, .inr (.inl (aL tl)))), ((ma 11), .inl (cJ, 41, .inr (.inl (aL rw)))), ((ma 12), .inl (cA, 2, .inl (aR rt)))] s.heap := hP
  have hD : va_D A [((ma 0), .inr (5, [.int (iZ (cd)), .ref ((ma 1)), .ref ((ma 2)), .ref ((ma 3)), .ref ((ma 4)), .ref ((ma 5)), .int (iZ (td)), .int (iZ (mn)), .ref ((ma 6)), .ref ((ma 7)), .ref ((ma 8)), .ref ((ma 9)), .ref ((ma 10)), .ref ((ma 11)), .ref ((ma 12))])), ((ma 1), .inl (cA, 3, .inl (aR f))), ((ma 2), .inl (cA, 5, .inl (aR g))), ((ma 3), .inl (cJ, 5, .inr (.inl (aL rs)))), ((ma 4), .inl (cJ, 3, .inr (.inl (aL ww)))), ((ma 5), .inl (cJ, 5, .inr (.inl (aL mo)))), ((ma 6), .inl (cA, 2, .inl (aR dg))), ((ma 7), .inl (cJ, 26, .inr (.inl (aL pl)))), ((ma 8), .inl (cJ, 6, .inr (.inl (aL sl)))), ((ma 9), .inl (cJ, 20, .inr (.inl (aL lf)))), ((ma 10), .inl (cJ, 13, .inr (.inl (aL tl)))), ((ma 11), .inl (cJ, 41, .inr (.inl (aL rw)))), ((ma 12), .inl (cA, 2, .inl (aR rt)))] := hD
  refine lv_aload_n hx hb d_Mod_put_0 rfl (lv_at hl 0 rfl) ?_
  refine lv_iload_n hx hb d_Mod_put_1 rfl (lv_at hl 1 rfl) ?_
  refine z_i2l hx hb d_Mod_put_2 (by omega) ?_
  refine lv_lconst (v := lZ (0)) hx hb d_Mod_put_3 (by decide +kernel) ?_
  refine lv_lconst (v := lZ (1)) hx hb d_Mod_put_4 (by decide +kernel) ?_
  refine w_rdi (va_runS (As := [.long (lZ (x)), .long (lZ (0)), .long (lZ (1))]) (rest := [.ref ((ma 0))]) ⟨hx, hb, hml, hown, hts⟩ (c_min l x 0 1 (by omega) (by omega) (by omega)) (va_cwS 3 hts g_Mod_53 rfl rfl rfl (by decide +kernel) ⟨Nat.le_of_ble_eq_true rfl, Nat.le_of_ble_eq_true rfl⟩) preEq rfl rfl hl.1 rfl (lv_room (Nat.le_of_ble_eq_true rfl)) d_Mod_put_5 ⟨Nat.le_of_ble_eq_true rfl, Nat.le_of_ble_eq_true rfl⟩) ?_
  rw [if_pos (show 0 ≤ x ∧ x ≤ 1 by omega)]
  refine z_if_ne (tgt := 15) hx hb d_Mod_put_8 (by decide) (by decide) (fun c_8 => ?_) (fun c_8 => ?_)
  · refine lv_iload_n hx hb d_Mod_put_15 rfl (lv_at hl 2 rfl) ?_
    refine z_i2l hx hb d_Mod_put_16 (by omega) ?_
    refine lv_lconst (v := lZ (0)) hx hb d_Mod_put_17 (by decide +kernel) ?_
    refine lv_iload_n hx hb d_Mod_put_18 rfl (lv_at hl 1 rfl) ?_
    refine z_if_ne (tgt := 28) hx hb d_Mod_put_19 (by decide) (by omega) (fun c_19 => ?_) (fun c_19 => ?_)
    · refine lv_ldc2 (v := lZ (4)) hx hb hown (show (Jvm.Cond.constantLong "OrderTwoCasesModel" 59 (lZ (4))).before _ s = true from hts _ k_523) d_Mod_put_28 ?_
      refine w_rdi (va_runS (As := [.long (lZ (k)), .long (lZ (0)), .long (lZ (4))]) (rest := [.ref ((ma 0))]) ⟨hx, hb, hml, hown, hts⟩ (c_min l k 0 4 (by omega) (by omega) (by omega)) (va_cwS 3 hts g_Mod_53 rfl rfl rfl (by decide +kernel) ⟨Nat.le_of_ble_eq_true rfl, Nat.le_of_ble_eq_true rfl⟩) preEq rfl rfl hl.1 rfl (lv_room (Nat.le_of_ble_eq_true rfl)) d_Mod_put_31 ⟨Nat.le_of_ble_eq_true rfl, Nat.le_of_ble_eq_true rfl⟩) ?_
      rw [if_neg (by split at hk9 <;> omega)]
      refine z_if_ne (tgt := 41) hx hb d_Mod_put_34 (by decide) (by decide) (fun c_34 => ?_) (fun c_34 => ?_)
      · exact absurd rfl c_34
      · refine lv_iconst (v := iZ (2)) hx hb d_Mod_put_37 rfl ?_
        refine lv_goto (tgt := 42) hx hb d_Mod_put_38 (by decide) ?_
        refine va_put (D := (dC, dI)) (ci := 5) (v := .int (iZ (2))) (ty := .int) (C := "OrderTwoCasesModel") (T := F_Mod) (N := 15) hx hb hts la_Mod t_Mod tok_Mod nm_Mod hown hK hP hD hS 0 rfl rfl 0 (by decide) (hts _ k_464) (fun _ h9 => h9) rfl (by decide +kernel) rfl rfl (Nat.le_of_ble_eq_true rfl) d_Mod_put_42 (fun H locs hP hD hS => ?_)
        have hP : va_P (dC, dI) vC [((ma 0), .inr (5, [.int (iZ (2)), .ref ((ma 1)), .ref ((ma 2)), .ref ((ma 3)), .ref ((ma 4)), .ref ((ma 5)), .int (iZ (td)), .int (iZ (mn)), .ref ((ma 6)), .ref ((ma 7)), .ref ((ma 8)), .ref ((ma 9)), .ref ((ma 10)), .ref ((ma 11)), .ref ((ma 12))])), ((ma 1), .inl (cA, 3, .inl (aR f))), ((ma 2), .inl (cA, 5, .inl (aR g))), ((ma 3), .inl (cJ, 5, .inr (.inl (aL rs)))), ((ma 4), .inl (cJ, 3, .inr (.inl (aL ww)))), ((ma 5), .inl (cJ, 5, .inr (.inl (aL mo)))), ((ma 6), .inl (cA, 2, .inl (aR dg))), ((ma 7), .inl (cJ, 26, .inr (.inl (aL pl)))), ((ma 8), .inl (cJ, 6, .inr (.inl (aL sl)))), ((ma 9), .inl (cJ, 20, .inr (.inl (aL lf)))), ((ma 10), .inl (cJ, 13, .inr (.inl (aL tl)))), ((ma 11), .inl (cJ, 41, .inr (.inl (aL rw)))), ((ma 12), .inl (cA, 2, .inl (aR rt)))] H := hP
        have hD : va_D A [((ma 0), .inr (5, [.int (iZ (2)), .ref ((ma 1)), .ref ((ma 2)), .ref ((ma 3)), .ref ((ma 4)), .ref ((ma 5)), .int (iZ (td)), .int (iZ (mn)), .ref ((ma 6)), .ref ((ma 7)), .ref ((ma 8)), .ref ((ma 9)), .ref ((ma 10)), .ref ((ma 11)), .ref ((ma 12))])), ((ma 1), .inl (cA, 3, .inl (aR f))), ((ma 2), .inl (cA, 5, .inl (aR g))), ((ma 3), .inl (cJ, 5, .inr (.inl (aL rs)))), ((ma 4), .inl (cJ, 3, .inr (.inl (aL ww)))), ((ma 5), .inl (cJ, 5, .inr (.inl (aL mo)))), ((ma 6), .inl (cA, 2, .inl (aR dg))), ((ma 7), .inl (cJ, 26, .inr (.inl (aL pl)))), ((ma 8), .inl (cJ, 6, .inr (.inl (aL sl)))), ((ma 9), .inl (cJ, 20, .inr (.inl (aL lf)))), ((ma 10), .inl (cJ, 13, .inr (.inl (aL tl)))), ((ma 11), .inl (cJ, 41, .inr (.inl (aL rw)))), ((ma 12), .inl (cA, 2, .inl (aR rt)))] := hD
        refine lv_aload_n hx hb d_Mod_put_45 rfl (lv_at hl 0 rfl) ?_
        refine va_get (D := (dC, dI)) (ci := 5) (v := .int (iZ (2))) (C := "OrderTwoCasesModel") (T := F_Mod) (N := 15) hx hb hts la_Mod hown hK hP 0 rfl rfl 0 (by decide) (hts _ k_464) (fun _ h9 => h9) rfl d_Mod_put_46 ?_
        refine z_if_le (tgt := 54) hx hb d_Mod_put_49 (by decide) (by omega) (fun c_49 => ?_) (fun c_49 => ?_)
        · exact absurd c_49 (by decide)
        · refine lv_iconst (v := iZ (0)) hx hb d_Mod_put_52 rfl ?_
          exact w_zret (post := fun (_ : Int32) (u : MS) => u.2.2.2.2.2.2.2.2.2.2.1 = 2) (wn := fun (u : MS) => mW cA cJ ma f g u) hx hb hr rfl hlocks (rs, ww, mo, dg, pl, sl, lf, tl, rw, rt, 2, td, mn) rfl hP hD hS d_Mod_put_53
    · refine lv_ldc2 (v := lZ (2)) hx hb hown (show (Jvm.Cond.constantLong "OrderTwoCasesModel" 57 (lZ (2))).before _ s = true from hts _ k_522) d_Mod_put_22 ?_
      refine lv_goto (tgt := 31) hx hb d_Mod_put_25 (by decide) ?_
      refine w_rdi (va_runS (As := [.long (lZ (k)), .long (lZ (0)), .long (lZ (2))]) (rest := [.ref ((ma 0))]) ⟨hx, hb, hml, hown, hts⟩ (c_min l k 0 2 (by omega) (by omega) (by omega)) (va_cwS 3 hts g_Mod_53 rfl rfl rfl (by decide +kernel) ⟨Nat.le_of_ble_eq_true rfl, Nat.le_of_ble_eq_true rfl⟩) preEq rfl rfl hl.1 rfl (lv_room (Nat.le_of_ble_eq_true rfl)) d_Mod_put_31 ⟨Nat.le_of_ble_eq_true rfl, Nat.le_of_ble_eq_true rfl⟩) ?_
      rw [if_neg (by split at hk9 <;> omega)]
      refine z_if_ne (tgt := 41) hx hb d_Mod_put_34 (by decide) (by decide) (fun c_34 => ?_) (fun c_34 => ?_)
      · exact absurd rfl c_34
      · refine lv_iconst (v := iZ (2)) hx hb d_Mod_put_37 rfl ?_
        refine lv_goto (tgt := 42) hx hb d_Mod_put_38 (by decide) ?_
        refine va_put (D := (dC, dI)) (ci := 5) (v := .int (iZ (2))) (ty := .int) (C := "OrderTwoCasesModel") (T := F_Mod) (N := 15) hx hb hts la_Mod t_Mod tok_Mod nm_Mod hown hK hP hD hS 0 rfl rfl 0 (by decide) (hts _ k_464) (fun _ h9 => h9) rfl (by decide +kernel) rfl rfl (Nat.le_of_ble_eq_true rfl) d_Mod_put_42 (fun H locs hP hD hS => ?_)
        have hP : va_P (dC, dI) vC [((ma 0), .inr (5, [.int (iZ (2)), .ref ((ma 1)), .ref ((ma 2)), .ref ((ma 3)), .ref ((ma 4)), .ref ((ma 5)), .int (iZ (td)), .int (iZ (mn)), .ref ((ma 6)), .ref ((ma 7)), .ref ((ma 8)), .ref ((ma 9)), .ref ((ma 10)), .ref ((ma 11)), .ref ((ma 12))])), ((ma 1), .inl (cA, 3, .inl (aR f))), ((ma 2), .inl (cA, 5, .inl (aR g))), ((ma 3), .inl (cJ, 5, .inr (.inl (aL rs)))), ((ma 4), .inl (cJ, 3, .inr (.inl (aL ww)))), ((ma 5), .inl (cJ, 5, .inr (.inl (aL mo)))), ((ma 6), .inl (cA, 2, .inl (aR dg))), ((ma 7), .inl (cJ, 26, .inr (.inl (aL pl)))), ((ma 8), .inl (cJ, 6, .inr (.inl (aL sl)))), ((ma 9), .inl (cJ, 20, .inr (.inl (aL lf)))), ((ma 10), .inl (cJ, 13, .inr (.inl (aL tl)))), ((ma 11), .inl (cJ, 41, .inr (.inl (aL rw)))), ((ma 12), .inl (cA, 2, .inl (aR rt)))] H := hP
        have hD : va_D A [((ma 0), .inr (5, [.int (iZ (2)), .ref ((ma 1)), .ref ((ma 2)), .ref ((ma 3)), .ref ((ma 4)), .ref ((ma 5)), .int (iZ (td)), .int (iZ (mn)), .ref ((ma 6)), .ref ((ma 7)), .ref ((ma 8)), .ref ((ma 9)), .ref ((ma 10)), .ref ((ma 11)), .ref ((ma 12))])), ((ma 1), .inl (cA, 3, .inl (aR f))), ((ma 2), .inl (cA, 5, .inl (aR g))), ((ma 3), .inl (cJ, 5, .inr (.inl (aL rs)))), ((ma 4), .inl (cJ, 3, .inr (.inl (aL ww)))), ((ma 5), .inl (cJ, 5, .inr (.inl (aL mo)))), ((ma 6), .inl (cA, 2, .inl (aR dg))), ((ma 7), .inl (cJ, 26, .inr (.inl (aL pl)))), ((ma 8), .inl (cJ, 6, .inr (.inl (aL sl)))), ((ma 9), .inl (cJ, 20, .inr (.inl (aL lf)))), ((ma 10), .inl (cJ, 13, .inr (.inl (aL tl)))), ((ma 11), .inl (cJ, 41, .inr (.inl (aL rw)))), ((ma 12), .inl (cA, 2, .inl (aR rt)))] := hD
        refine lv_aload_n hx hb d_Mod_put_45 rfl (lv_at hl 0 rfl) ?_
        refine va_get (D := (dC, dI)) (ci := 5) (v := .int (iZ (2))) (C := "OrderTwoCasesModel") (T := F_Mod) (N := 15) hx hb hts la_Mod hown hK hP 0 rfl rfl 0 (by decide) (hts _ k_464) (fun _ h9 => h9) rfl d_Mod_put_46 ?_
        refine z_if_le (tgt := 54) hx hb d_Mod_put_49 (by decide) (by omega) (fun c_49 => ?_) (fun c_49 => ?_)
        · exact absurd c_49 (by decide)
        · refine lv_iconst (v := iZ (0)) hx hb d_Mod_put_52 rfl ?_
          exact w_zret (post := fun (_ : Int32) (u : MS) => u.2.2.2.2.2.2.2.2.2.2.1 = 2) (wn := fun (u : MS) => mW cA cJ ma f g u) hx hb hr rfl hlocks (rs, ww, mo, dg, pl, sl, lf, tl, rw, rt, 2, td, mn) rfl hP hD hS d_Mod_put_53
  · exact absurd c_8 (by decide)

set_option maxHeartbeats 4000000 in
set_option maxRecDepth 100000 in
/-- clear() -/
theorem c_mclear (l : Launch) (dC : Nat → ClassId) (dI : Nat → Nat → Nat) (cA cJ : ClassId) (sz : Nat) (ma : Nat → Nat) (f g rs ww mo dg pl sl lf tl rw rt : Int → Int) (cd td mn : Int) (hf : RoW 3 f) (hg : RoW 5 g) : Met l y_Mod_clear w_Mod_clear ({ frames := 0, cells := 0, slots := 0, locals := 0 }) (va_Pc [.ref ((ma 0))] (wP (dC, dI) vC [(cA, .int), (cJ, .long)] (mW cA cJ ma f g (rs, ww, mo, dg, pl, sl, lf, tl, rw, rt, cd, td, mn)) sz)) (va_Qv (fun u : MS => u.2.2.2.2.2.2.2.2.2.2.1 = 0) (fun (u : MS) t => wB (dC, dI) vC (va_A (mW cA cJ ma f g (rs, ww, mo, dg, pl, sl, lf, tl, rw, rt, cd, td, mn)) sz) (mW cA cJ ma (fun _ => 0) (fun _ => 0) u) t) (va_A (mW cA cJ ma f g (rs, ww, mo, dg, pl, sl, lf, tl, rw, rt, cd, td, mn)) sz)) 0 0 (va_A (mW cA cJ ma f g (rs, ww, mo, dg, pl, sl, lf, tl, rw, rt, cd, td, mn)) sz) := by
  refine Met.ofW (cc := b_Mod_clear) (maxL := 2) (ret := (Option.none : Option Jvm.ClassFile.FieldType)) (by decide) rfl ?_
  intro p e s m args below meth c s₁ B hml hv
  obtain ⟨rfl, hsz, hP, hK, hD0⟩ := hv
  have hx := B.exec
  have hb := B.bytes
  have hr := B.returns
  have hts : ∀ w ∈ tT, w.before _ s = true := fun w h => atoms_spec (ws := w_Mod_clear) B.pre w (List.mem_cons_of_mem _ h)
  have hown : s.vm.findClass "OrderTwoCasesModel" = some m.cls := findClass_of_methodNamed B.named
  have hlocks := B.notSynchronized
  subst hsz
  have hD := hD0.self (sz := s.heap.size)
  generalize hAe : va_A (mW cA cJ ma f g (rs, ww, mo, dg, pl, sl, lf, tl, rw, rt, cd, td, mn)) s.heap.size = A at hD ⊢
  have hA : ∀ q : Nat, s.heap.size ≤ q → A q := fun q h => by rw [← hAe]; exact Or.inr h
  have hS : va_S A s.heap s.heap [] := va_S.rf
  have hl := lv_entry ([.ref ((ma 0))]) (n := 2) (Nat.le_of_ble_eq_true rfl)
  rw [lg_entry_eq]
  generalize (lg_sl ([.ref ((ma 0))]) ++ List.replicate (2 - (lg_sl ([.ref ((ma 0))])).length) Slot.unset).toArray = ls at hl ⊢
  have hl : lv_has ls 2 [(0, .ref ((ma 0)))] := hl
  have hP : va_P (dC, dI) vC [((ma 0), .inr (5, [.int (iZ (cd)), .ref ((ma 1)), .ref ((ma 2)), .ref ((ma 3)), .ref ((ma 4)), .ref ((ma 5)), .int (iZ (td)), .int (iZ (mn)), .ref ((ma 6)), .ref ((ma 7)), .ref ((ma 8)), .ref ((ma 9)), .ref ((ma 10)), .ref ((ma 11)), .ref ((ma 12))])), ((ma 1), .inl (cA, 3, .inl (aR f))), ((ma 2), .inl (cA, 5, .inl (aR g))), ((ma 3), .inl (cJ, 5, .inr (.inl (aL rs)))), ((ma 4), .inl (cJ, 3, .inr (.inl (aL ww)))), ((ma 5), .inl (cJ, 5, .inr (.inl (aL mo)))), ((ma 6), .inl (cA, 2, .inl (aR dg))), ((ma 7), .inl (cJ, 26, .inr (.inl (aL pl)))), ((ma 8), .inl (cJ, 6, .inr (.inl (aL sl)))), ((ma 9), .inl (cJ, 20, .inr (.inl (aL lf)))), ((ma 10), .inl (cJ, 13, .inr (.inl (aL tl)))), ((ma 11), .inl (cJ, 41, .inr (.inl (aL rw)))), ((ma 12), .inl (cA, 2, .inl (aR rt)))] s.heap := hP
  have hD : va_D A [((ma 0), .inr (5, [.int (iZ (cd)), .ref ((ma 1)), .ref ((ma 2)), .ref ((ma 3)), .ref ((ma 4)), .ref ((ma 5)), .int (iZ (td)), .int (iZ (mn)), .ref ((ma 6)), .ref ((ma 7)), .ref ((ma 8)), .ref ((ma 9)), .ref ((ma 10)), .ref ((ma 11)), .ref ((ma 12))])), ((ma 1), .inl (cA, 3, .inl (aR f))), ((ma 2), .inl (cA, 5, .inl (aR g))), ((ma 3), .inl (cJ, 5, .inr (.inl (aL rs)))), ((ma 4), .inl (cJ, 3, .inr (.inl (aL ww)))), ((ma 5), .inl (cJ, 5, .inr (.inl (aL mo)))), ((ma 6), .inl (cA, 2, .inl (aR dg))), ((ma 7), .inl (cJ, 26, .inr (.inl (aL pl)))), ((ma 8), .inl (cJ, 6, .inr (.inl (aL sl)))), ((ma 9), .inl (cJ, 20, .inr (.inl (aL lf)))), ((ma 10), .inl (cJ, 13, .inr (.inl (aL tl)))), ((ma 11), .inl (cJ, 41, .inr (.inl (aL rw)))), ((ma 12), .inl (cA, 2, .inl (aR rt)))] := hD
  refine lv_aload_n hx hb d_Mod_clear_0 rfl (lv_at hl 0 rfl) ?_
  refine lv_iconst (v := iZ (0)) hx hb d_Mod_clear_1 rfl ?_
  refine va_put (D := (dC, dI)) (ci := 5) (v := .int (iZ (0))) (ty := .int) (C := "OrderTwoCasesModel") (T := F_Mod) (N := 15) hx hb hts la_Mod t_Mod tok_Mod nm_Mod hown hK hP hD hS 0 rfl rfl 0 (by decide) (hts _ k_464) (fun _ h9 => h9) rfl (by decide +kernel) rfl rfl (Nat.le_of_ble_eq_true rfl) d_Mod_clear_2 (fun H locs hP hD hS => ?_)
  have hP : va_P (dC, dI) vC [((ma 0), .inr (5, [.int (iZ (0)), .ref ((ma 1)), .ref ((ma 2)), .ref ((ma 3)), .ref ((ma 4)), .ref ((ma 5)), .int (iZ (td)), .int (iZ (mn)), .ref ((ma 6)), .ref ((ma 7)), .ref ((ma 8)), .ref ((ma 9)), .ref ((ma 10)), .ref ((ma 11)), .ref ((ma 12))])), ((ma 1), .inl (cA, 3, .inl (aR f))), ((ma 2), .inl (cA, 5, .inl (aR g))), ((ma 3), .inl (cJ, 5, .inr (.inl (aL rs)))), ((ma 4), .inl (cJ, 3, .inr (.inl (aL ww)))), ((ma 5), .inl (cJ, 5, .inr (.inl (aL mo)))), ((ma 6), .inl (cA, 2, .inl (aR dg))), ((ma 7), .inl (cJ, 26, .inr (.inl (aL pl)))), ((ma 8), .inl (cJ, 6, .inr (.inl (aL sl)))), ((ma 9), .inl (cJ, 20, .inr (.inl (aL lf)))), ((ma 10), .inl (cJ, 13, .inr (.inl (aL tl)))), ((ma 11), .inl (cJ, 41, .inr (.inl (aL rw)))), ((ma 12), .inl (cA, 2, .inl (aR rt)))] H := hP
  have hD : va_D A [((ma 0), .inr (5, [.int (iZ (0)), .ref ((ma 1)), .ref ((ma 2)), .ref ((ma 3)), .ref ((ma 4)), .ref ((ma 5)), .int (iZ (td)), .int (iZ (mn)), .ref ((ma 6)), .ref ((ma 7)), .ref ((ma 8)), .ref ((ma 9)), .ref ((ma 10)), .ref ((ma 11)), .ref ((ma 12))])), ((ma 1), .inl (cA, 3, .inl (aR f))), ((ma 2), .inl (cA, 5, .inl (aR g))), ((ma 3), .inl (cJ, 5, .inr (.inl (aL rs)))), ((ma 4), .inl (cJ, 3, .inr (.inl (aL ww)))), ((ma 5), .inl (cJ, 5, .inr (.inl (aL mo)))), ((ma 6), .inl (cA, 2, .inl (aR dg))), ((ma 7), .inl (cJ, 26, .inr (.inl (aL pl)))), ((ma 8), .inl (cJ, 6, .inr (.inl (aL sl)))), ((ma 9), .inl (cJ, 20, .inr (.inl (aL lf)))), ((ma 10), .inl (cJ, 13, .inr (.inl (aL tl)))), ((ma 11), .inl (cJ, 41, .inr (.inl (aL rw)))), ((ma 12), .inl (cA, 2, .inl (aR rt)))] := hD
  refine lv_iconst (v := iZ (0)) hx hb d_Mod_clear_5 rfl ?_
  refine lv_istore_n (lv' := [(1, .int (iZ (0))), (0, .ref ((ma 0)))]) hx hb d_Mod_clear_6 rfl hl (by decide) rfl (fun ls hl => ?_)
  have loop_7 : ∀ (m_7 : Nat) (i : Int) (hi : 0 ≤ i ∧ i ≤ 3) (hmeas : 3 - i < (m_7 : Int)) (H : Heap) (locs : List Loc) (hP : va_P (dC, dI) vC [((ma 0), .inr (5, [.int (iZ (0)), .ref ((ma 1)), .ref ((ma 2)), .ref ((ma 3)), .ref ((ma 4)), .ref ((ma 5)), .int (iZ (td)), .int (iZ (mn)), .ref ((ma 6)), .ref ((ma 7)), .ref ((ma 8)), .ref ((ma 9)), .ref ((ma 10)), .ref ((ma 11)), .ref ((ma 12))])), ((ma 1), .inl (cA, 3, .inl (aR (fL (fun _ => 0) f i)))), ((ma 2), .inl (cA, 5, .inl (aR g))), ((ma 3), .inl (cJ, 5, .inr (.inl (aL rs)))), ((ma 4), .inl (cJ, 3, .inr (.inl (aL ww)))), ((ma 5), .inl (cJ, 5, .inr (.inl (aL mo)))), ((ma 6), .inl (cA, 2, .inl (aR dg))), ((ma 7), .inl (cJ, 26, .inr (.inl (aL pl)))), ((ma 8), .inl (cJ, 6, .inr (.inl (aL sl)))), ((ma 9), .inl (cJ, 20, .inr (.inl (aL lf)))), ((ma 10), .inl (cJ, 13, .inr (.inl (aL tl)))), ((ma 11), .inl (cJ, 41, .inr (.inl (aL rw)))), ((ma 12), .inl (cA, 2, .inl (aR rt)))] H) (hD : va_D A [((ma 0), .inr (5, [.int (iZ (0)), .ref ((ma 1)), .ref ((ma 2)), .ref ((ma 3)), .ref ((ma 4)), .ref ((ma 5)), .int (iZ (td)), .int (iZ (mn)), .ref ((ma 6)), .ref ((ma 7)), .ref ((ma 8)), .ref ((ma 9)), .ref ((ma 10)), .ref ((ma 11)), .ref ((ma 12))])), ((ma 1), .inl (cA, 3, .inl (aR (fL (fun _ => 0) f i)))), ((ma 2), .inl (cA, 5, .inl (aR g))), ((ma 3), .inl (cJ, 5, .inr (.inl (aL rs)))), ((ma 4), .inl (cJ, 3, .inr (.inl (aL ww)))), ((ma 5), .inl (cJ, 5, .inr (.inl (aL mo)))), ((ma 6), .inl (cA, 2, .inl (aR dg))), ((ma 7), .inl (cJ, 26, .inr (.inl (aL pl)))), ((ma 8), .inl (cJ, 6, .inr (.inl (aL sl)))), ((ma 9), .inl (cJ, 20, .inr (.inl (aL lf)))), ((ma 10), .inl (cJ, 13, .inr (.inl (aL tl)))), ((ma 11), .inl (cJ, 41, .inr (.inl (aL rw)))), ((ma 12), .inl (cA, 2, .inl (aR rt)))]) (hS : va_S A s.heap H locs) (ls : Array Slot) (hl : lv_has ls 2 [(1, .int (iZ (i))), (0, .ref ((ma 0)))]), W p l e ({ frames := 0, cells := 0, slots := 0, locals := 0 } : Room) s m ([.ref ((ma 0))] : List Value).toArray below meth c H locs 0 0 (MQ below (va_Qv (fun u : MS => u.2.2.2.2.2.2.2.2.2.2.1 = 0) (fun (u : MS) t => wB (dC, dI) vC A (mW cA cJ ma (fun _ => 0) (fun _ => 0) u) t) A) ([.ref ((ma 0))] : List Value).toArray s 0 0 A) (F0 m 7 ls []) := by
    intro m_7
    induction m_7 with
    | zero =>
      intro i hi hmeas
      exfalso; omega
    | succ m_7 ih_7 =>
      intro i hi hmeas H locs hP hD hS ls hl
      refine lv_iload_n hx hb d_Mod_clear_7 rfl (lv_at hl 0 rfl) ?_
      refine lv_iconst (v := iZ (3)) hx hb d_Mod_clear_8 rfl ?_
      refine z_icmp_ge (tgt := 25) hx hb d_Mod_clear_9 (by decide) (by omega) (by omega) (fun c_9 => ?_) (fun c_9 => ?_)
      · have hz : i = ((3 : Nat) : Int) := by omega
        rw [hz, fL_n hf (fun _ _ => rfl)] at hP hD
        have hP : va_P (dC, dI) vC [((ma 0), .inr (5, [.int (iZ (0)), .ref ((ma 1)), .ref ((ma 2)), .ref ((ma 3)), .ref ((ma 4)), .ref ((ma 5)), .int (iZ (td)), .int (iZ (mn)), .ref ((ma 6)), .ref ((ma 7)), .ref ((ma 8)), .ref ((ma 9)), .ref ((ma 10)), .ref ((ma 11)), .ref ((ma 12))])), ((ma 1), .inl (cA, 3, .inl (aR (fun _ => 0)))), ((ma 2), .inl (cA, 5, .inl (aR g))), ((ma 3), .inl (cJ, 5, .inr (.inl (aL rs)))), ((ma 4), .inl (cJ, 3, .inr (.inl (aL ww)))), ((ma 5), .inl (cJ, 5, .inr (.inl (aL mo)))), ((ma 6), .inl (cA, 2, .inl (aR dg))), ((ma 7), .inl (cJ, 26, .inr (.inl (aL pl)))), ((ma 8), .inl (cJ, 6, .inr (.inl (aL sl)))), ((ma 9), .inl (cJ, 20, .inr (.inl (aL lf)))), ((ma 10), .inl (cJ, 13, .inr (.inl (aL tl)))), ((ma 11), .inl (cJ, 41, .inr (.inl (aL rw)))), ((ma 12), .inl (cA, 2, .inl (aR rt)))] H := hP
        have hD : va_D A [((ma 0), .inr (5, [.int (iZ (0)), .ref ((ma 1)), .ref ((ma 2)), .ref ((ma 3)), .ref ((ma 4)), .ref ((ma 5)), .int (iZ (td)), .int (iZ (mn)), .ref ((ma 6)), .ref ((ma 7)), .ref ((ma 8)), .ref ((ma 9)), .ref ((ma 10)), .ref ((ma 11)), .ref ((ma 12))])), ((ma 1), .inl (cA, 3, .inl (aR (fun _ => 0)))), ((ma 2), .inl (cA, 5, .inl (aR g))), ((ma 3), .inl (cJ, 5, .inr (.inl (aL rs)))), ((ma 4), .inl (cJ, 3, .inr (.inl (aL ww)))), ((ma 5), .inl (cJ, 5, .inr (.inl (aL mo)))), ((ma 6), .inl (cA, 2, .inl (aR dg))), ((ma 7), .inl (cJ, 26, .inr (.inl (aL pl)))), ((ma 8), .inl (cJ, 6, .inr (.inl (aL sl)))), ((ma 9), .inl (cJ, 20, .inr (.inl (aL lf)))), ((ma 10), .inl (cJ, 13, .inr (.inl (aL tl)))), ((ma 11), .inl (cJ, 41, .inr (.inl (aL rw)))), ((ma 12), .inl (cA, 2, .inl (aR rt)))] := hD
        refine lv_iconst (v := iZ (0)) hx hb d_Mod_clear_25 rfl ?_
        refine lv_istore_n (lv' := [(1, .int (iZ (0))), (0, .ref ((ma 0)))]) hx hb d_Mod_clear_26 rfl hl (by decide) rfl (fun ls hl => ?_)
        have loop_27 : ∀ (m_27 : Nat) (i : Int) (hi : 0 ≤ i ∧ i ≤ 5) (hmeas : 5 - i < (m_27 : Int)) (H : Heap) (locs : List Loc) (hP : va_P (dC, dI) vC [((ma 0), .inr (5, [.int (iZ (0)), .ref ((ma 1)), .ref ((ma 2)), .ref ((ma 3)), .ref ((ma 4)), .ref ((ma 5)), .int (iZ (td)), .int (iZ (mn)), .ref ((ma 6)), .ref ((ma 7)), .ref ((ma 8)), .ref ((ma 9)), .ref ((ma 10)), .ref ((ma 11)), .ref ((ma 12))])), ((ma 1), .inl (cA, 3, .inl (aR (fun _ => 0)))), ((ma 2), .inl (cA, 5, .inl (aR (fL (fun _ => 0) g i)))), ((ma 3), .inl (cJ, 5, .inr (.inl (aL rs)))), ((ma 4), .inl (cJ, 3, .inr (.inl (aL ww)))), ((ma 5), .inl (cJ, 5, .inr (.inl (aL mo)))), ((ma 6), .inl (cA, 2, .inl (aR dg))), ((ma 7), .inl (cJ, 26, .inr (.inl (aL pl)))), ((ma 8), .inl (cJ, 6, .inr (.inl (aL sl)))), ((ma 9), .inl (cJ, 20, .inr (.inl (aL lf)))), ((ma 10), .inl (cJ, 13, .inr (.inl (aL tl)))), ((ma 11), .inl (cJ, 41, .inr (.inl (aL rw)))), ((ma 12), .inl (cA, 2, .inl (aR rt)))] H) (hD : va_D A [((ma 0), .inr (5, [.int (iZ (0)), .ref ((ma 1)), .ref ((ma 2)), .ref ((ma 3)), .ref ((ma 4)), .ref ((ma 5)), .int (iZ (td)), .int (iZ (mn)), .ref ((ma 6)), .ref ((ma 7)), .ref ((ma 8)), .ref ((ma 9)), .ref ((ma 10)), .ref ((ma 11)), .ref ((ma 12))])), ((ma 1), .inl (cA, 3, .inl (aR (fun _ => 0)))), ((ma 2), .inl (cA, 5, .inl (aR (fL (fun _ => 0) g i)))), ((ma 3), .inl (cJ, 5, .inr (.inl (aL rs)))), ((ma 4), .inl (cJ, 3, .inr (.inl (aL ww)))), ((ma 5), .inl (cJ, 5, .inr (.inl (aL mo)))), ((ma 6), .inl (cA, 2, .inl (aR dg))), ((ma 7), .inl (cJ, 26, .inr (.inl (aL pl)))), ((ma 8), .inl (cJ, 6, .inr (.inl (aL sl)))), ((ma 9), .inl (cJ, 20, .inr (.inl (aL lf)))), ((ma 10), .inl (cJ, 13, .inr (.inl (aL tl)))), ((ma 11), .inl (cJ, 41, .inr (.inl (aL rw)))), ((ma 12), .inl (cA, 2, .inl (aR rt)))]) (hS : va_S A s.heap H locs) (ls : Array Slot) (hl : lv_has ls 2 [(1, .int (iZ (i))), (0, .ref ((ma 0)))]), W p l e ({ frames := 0, cells := 0, slots := 0, locals := 0 } : Room) s m ([.ref ((ma 0))] : List Value).toArray below meth c H locs 0 0 (MQ below (va_Qv (fun u : MS => u.2.2.2.2.2.2.2.2.2.2.1 = 0) (fun (u : MS) t => wB (dC, dI) vC A (mW cA cJ ma (fun _ => 0) (fun _ => 0) u) t) A) ([.ref ((ma 0))] : List Value).toArray s 0 0 A) (F0 m 27 ls []) := by
          intro m_27
          induction m_27 with
          | zero =>
            intro i hi hmeas
            exfalso; omega
          | succ m_27 ih_27 =>
            intro i hi hmeas H locs hP hD hS ls hl
            refine lv_iload_n hx hb d_Mod_clear_27 rfl (lv_at hl 0 rfl) ?_
            refine lv_iconst (v := iZ (5)) hx hb d_Mod_clear_28 rfl ?_
            refine z_icmp_ge (tgt := 45) hx hb d_Mod_clear_29 (by decide) (by omega) (by omega) (fun c_29 => ?_) (fun c_29 => ?_)
            · have hz : i = ((5 : Nat) : Int) := by omega
              rw [hz, fL_n hg (fun _ _ => rfl)] at hP hD
              exact w_vret (post := fun u : MS => u.2.2.2.2.2.2.2.2.2.2.1 = 0) (wn := fun (u : MS) => mW cA cJ ma (fun _ => 0) (fun _ => 0) u) hx hb hr hlocks (rs, ww, mo, dg, pl, sl, lf, tl, rw, rt, 0, td, mn) rfl hP hD hS d_Mod_clear_45
            · refine lv_aload_n hx hb d_Mod_clear_32 rfl (lv_at hl 1 rfl) ?_
              refine va_get (D := (dC, dI)) (ci := 5) (v := .ref ((ma 2))) (C := "OrderTwoCasesModel") (T := F_Mod) (N := 15) hx hb hts la_Mod hown hK hP 0 rfl rfl 2 (by decide) (hts _ k_466) (fun _ h9 => h9) rfl d_Mod_clear_33 ?_
              refine lv_iload_n hx hb d_Mod_clear_36 rfl (lv_at hl 0 rfl) ?_
              refine lv_iconst (v := iZ (0)) hx hb d_Mod_clear_37 rfl ?_
              refine z_iast (wf := [((ma 0), .inr (5, [.int (iZ (0)), .ref ((ma 1)), .ref ((ma 2)), .ref ((ma 3)), .ref ((ma 4)), .ref ((ma 5)), .int (iZ (td)), .int (iZ (mn)), .ref ((ma 6)), .ref ((ma 7)), .ref ((ma 8)), .ref ((ma 9)), .ref ((ma 10)), .ref ((ma 11)), .ref ((ma 12))])), ((ma 1), .inl (cA, 3, .inl (aR (fun _ => 0)))), ((ma 2), .inl (cA, 5, .inl (aR (sT (fL (fun _ => 0) g i) i 0)))), ((ma 3), .inl (cJ, 5, .inr (.inl (aL rs)))), ((ma 4), .inl (cJ, 3, .inr (.inl (aL ww)))), ((ma 5), .inl (cJ, 5, .inr (.inl (aL mo)))), ((ma 6), .inl (cA, 2, .inl (aR dg))), ((ma 7), .inl (cJ, 26, .inr (.inl (aL pl)))), ((ma 8), .inl (cJ, 6, .inr (.inl (aL sl)))), ((ma 9), .inl (cJ, 20, .inr (.inl (aL lf)))), ((ma 10), .inl (cJ, 13, .inr (.inl (aL tl)))), ((ma 11), .inl (cJ, 41, .inr (.inl (aL rw)))), ((ma 12), .inl (cA, 2, .inl (aR rt)))]) hx hb hK hP hD hS 2 0 rfl rfl (by omega) (by omega) (by omega) d_Mod_clear_38 rfl (fun H locs hP hD hS => ?_)
              rw [fL_st (fun _ => 0) g (by omega) rfl] at hP hD
              refine z_iinc (lv' := [(1, .int (iZ (i + 1))), (0, .ref ((ma 0)))]) hx hb d_Mod_clear_39 hl (k := 0) rfl (by decide) rfl (fun ls hl => ?_)
              refine lv_goto (tgt := 27) hx hb d_Mod_clear_42 (by decide) ?_
              exact ih_27 (i + 1) (by omega) (by omega) _ _ hP hD hS ls (lv_sub hl [0, 1] rfl)
        rw [← fL_0 (fun _ => 0) g] at hP hD
        exact loop_27 6 0 (by omega) (by omega) _ _ hP hD hS ls (lv_sub hl [0, 1] rfl)
      · refine lv_aload_n hx hb d_Mod_clear_12 rfl (lv_at hl 1 rfl) ?_
        refine va_get (D := (dC, dI)) (ci := 5) (v := .ref ((ma 1))) (C := "OrderTwoCasesModel") (T := F_Mod) (N := 15) hx hb hts la_Mod hown hK hP 0 rfl rfl 1 (by decide) (hts _ k_465) (fun _ h9 => h9) rfl d_Mod_clear_13 ?_
        refine lv_iload_n hx hb d_Mod_clear_16 rfl (lv_at hl 0 rfl) ?_
        refine lv_iconst (v := iZ (0)) hx hb d_Mod_clear_17 rfl ?_
        refine z_iast (wf := [((ma 0), .inr (5, [.int (iZ (0)), .ref ((ma 1)), .ref ((ma 2)), .ref ((ma 3)), .ref ((ma 4)), .ref ((ma 5)), .int (iZ (td)), .int (iZ (mn)), .ref ((ma 6)), .ref ((ma 7)), .ref ((ma 8)), .ref ((ma 9)), .ref ((ma 10)), .ref ((ma 11)), .ref ((ma 12))])), ((ma 1), .inl (cA, 3, .inl (aR (sT (fL (fun _ => 0) f i) i 0)))), ((ma 2), .inl (cA, 5, .inl (aR g))), ((ma 3), .inl (cJ, 5, .inr (.inl (aL rs)))), ((ma 4), .inl (cJ, 3, .inr (.inl (aL ww)))), ((ma 5), .inl (cJ, 5, .inr (.inl (aL mo)))), ((ma 6), .inl (cA, 2, .inl (aR dg))), ((ma 7), .inl (cJ, 26, .inr (.inl (aL pl)))), ((ma 8), .inl (cJ, 6, .inr (.inl (aL sl)))), ((ma 9), .inl (cJ, 20, .inr (.inl (aL lf)))), ((ma 10), .inl (cJ, 13, .inr (.inl (aL tl)))), ((ma 11), .inl (cJ, 41, .inr (.inl (aL rw)))), ((ma 12), .inl (cA, 2, .inl (aR rt)))]) hx hb hK hP hD hS 1 0 rfl rfl (by omega) (by omega) (by omega) d_Mod_clear_18 rfl (fun H locs hP hD hS => ?_)
        rw [fL_st (fun _ => 0) f (by omega) rfl] at hP hD
        refine z_iinc (lv' := [(1, .int (iZ (i + 1))), (0, .ref ((ma 0)))]) hx hb d_Mod_clear_19 hl (k := 0) rfl (by decide) rfl (fun ls hl => ?_)
        refine lv_goto (tgt := 7) hx hb d_Mod_clear_22 (by decide) ?_
        exact ih_7 (i + 1) (by omega) (by omega) _ _ hP hD hS ls (lv_sub hl [0, 1] rfl)
  rw [← fL_0 (fun _ => 0) f] at hP hD
  exact loop_7 4 0 (by omega) (by omega) _ _ hP hD hS ls (lv_sub hl [0, 1] rfl)

set_option maxHeartbeats 4000000 in
set_option maxRecDepth 100000 in
/-- move(b) -/
theorem c_mmove (l : Launch) (dC : Nat → ClassId) (dI : Nat → Nat → Nat) (cA cJ : ClassId) (sz : Nat) (ma : Nat → Nat) (f g rs ww mo dg pl sl lf tl rw rt : Int → Int) (cd td mn : Int) (hf : RoW 3 f) (hg : RoW 5 g) (b : Int) (hb64 : -9223372036854775808 ≤ b ∧ b < 9223372036854775808) : Met l y_Mod_move w_Mod_move ({ frames := 1, cells := 0, slots := 0, locals := 23 }) (va_Pc [.ref ((ma 0)), .long (lZ (b))] (wP (dC, dI) vC [(cA, .int), (cJ, .long)] (mW cA cJ ma f g (rs, ww, mo, dg, pl, sl, lf, tl, rw, rt, cd, td, mn)) sz)) (va_Qv (fun u : MS => u.2.2.2.2.2.2.2.2.2.2.1 = 0) (fun (u : MS) t => wB (dC, dI) vC (va_A (mW cA cJ ma f g (rs, ww, mo, dg, pl, sl, lf, tl, rw, rt, cd, td, mn)) sz) (mW cA cJ ma (shO 3 (md b) 3 f) (shO 5 (md b) 5 g) u) t) (va_A (mW cA cJ ma f g (rs, ww, mo, dg, pl, sl, lf, tl, rw, rt, cd, td, mn)) sz)) 0 0 (va_A (mW cA cJ ma f g (rs, ww, mo, dg, pl, sl, lf, tl, rw, rt, cd, td, mn)) sz) := by
  refine Met.ofW (cc := b_Mod_move) (maxL := 7) (ret := (Option.none : Option Jvm.ClassFile.FieldType)) (by decide) rfl ?_
  intro p e s m args below meth c s₁ B hml hv
  obtain ⟨rfl, hsz, hP, hK, hD0⟩ := hv
  have hx := B.exec
  have hb := B.bytes
  have hr := B.returns
  have hts : ∀ w ∈ tT, w.before _ s = true := fun w h => atoms_spec (ws := w_Mod_move) B.pre w (List.mem_cons_of_mem _ h)
  have hown : s.vm.findClass "OrderTwoCasesModel" = some m.cls := findClass_of_methodNamed B.named
  have hlocks := B.notSynchronized
  subst hsz
  have hD := hD0.self (sz := s.heap.size)
  generalize hAe : va_A (mW cA cJ ma f g (rs, ww, mo, dg, pl, sl, lf, tl, rw, rt, cd, td, mn)) s.heap.size = A at hD ⊢
  have hA : ∀ q : Nat, s.heap.size ≤ q → A q := fun q h => by rw [← hAe]; exact Or.inr h
  have hS : va_S A s.heap s.heap [] := va_S.rf
  have hl := lv_entry ([.ref ((ma 0)), .long (lZ (b))]) (n := 7) (Nat.le_of_ble_eq_true rfl)
  rw [lg_entry_eq]
  generalize (lg_sl ([.ref ((ma 0)), .long (lZ (b))]) ++ List.replicate (7 - (lg_sl ([.ref ((ma 0)), .long (lZ (b))])).length) Slot.unset).toArray = ls at hl ⊢
  have hl : lv_has ls 7 [(0, .ref ((ma 0))), (1, .long (lZ (b)))] := hl
  have hP : va_P (dC, dI) vC [((ma 0), .inr (5, [.int (iZ (cd)), .ref ((ma 1)), .ref ((ma 2)), .ref ((ma 3)), .ref ((ma 4)), .ref ((ma 5)), .int (iZ (td)), .int (iZ (mn)), .ref ((ma 6)), .ref ((ma 7)), .ref ((ma 8)), .ref ((ma 9)), .ref ((ma 10)), .ref ((ma 11)), .ref ((ma 12))])), ((ma 1), .inl (cA, 3, .inl (aR f))), ((ma 2), .inl (cA, 5, .inl (aR g))), ((ma 3), .inl (cJ, 5, .inr (.inl (aL rs)))), ((ma 4), .inl (cJ, 3, .inr (.inl (aL ww)))), ((ma 5), .inl (cJ, 5, .inr (.inl (aL mo)))), ((ma 6), .inl (cA, 2, .inl (aR dg))), ((ma 7), .inl (cJ, 26, .inr (.inl (aL pl)))), ((ma 8), .inl (cJ, 6, .inr (.inl (aL sl)))), ((ma 9), .inl (cJ, 20, .inr (.inl (aL lf)))), ((ma 10), .inl (cJ, 13, .inr (.inl (aL tl)))), ((ma 11), .inl (cJ, 41, .inr (.inl (aL rw)))), ((ma 12), .inl (cA, 2, .inl (aR rt)))] s.heap := hP
  have hD : va_D A [((ma 0), .inr (5, [.int (iZ (cd)), .ref ((ma 1)), .ref ((ma 2)), .ref ((ma 3)), .ref ((ma 4)), .ref ((ma 5)), .int (iZ (td)), .int (iZ (mn)), .ref ((ma 6)), .ref ((ma 7)), .ref ((ma 8)), .ref ((ma 9)), .ref ((ma 10)), .ref ((ma 11)), .ref ((ma 12))])), ((ma 1), .inl (cA, 3, .inl (aR f))), ((ma 2), .inl (cA, 5, .inl (aR g))), ((ma 3), .inl (cJ, 5, .inr (.inl (aL rs)))), ((ma 4), .inl (cJ, 3, .inr (.inl (aL ww)))), ((ma 5), .inl (cJ, 5, .inr (.inl (aL mo)))), ((ma 6), .inl (cA, 2, .inl (aR dg))), ((ma 7), .inl (cJ, 26, .inr (.inl (aL pl)))), ((ma 8), .inl (cJ, 6, .inr (.inl (aL sl)))), ((ma 9), .inl (cJ, 20, .inr (.inl (aL lf)))), ((ma 10), .inl (cJ, 13, .inr (.inl (aL tl)))), ((ma 11), .inl (cJ, 41, .inr (.inl (aL rw)))), ((ma 12), .inl (cA, 2, .inl (aR rt)))] := hD
  refine lv_aload_n hx hb d_Mod_move_0 rfl (lv_at hl 0 rfl) ?_
  refine lv_iconst (v := iZ (0)) hx hb d_Mod_move_1 rfl ?_
  refine va_put (D := (dC, dI)) (ci := 5) (v := .int (iZ (0))) (ty := .int) (C := "OrderTwoCasesModel") (T := F_Mod) (N := 15) hx hb hts la_Mod t_Mod tok_Mod nm_Mod hown hK hP hD hS 0 rfl rfl 0 (by decide) (hts _ k_464) (fun _ h9 => h9) rfl (by decide +kernel) rfl rfl (Nat.le_of_ble_eq_true rfl) d_Mod_move_2 (fun H locs hP hD hS => ?_)
  have hP : va_P (dC, dI) vC [((ma 0), .inr (5, [.int (iZ (0)), .ref ((ma 1)), .ref ((ma 2)), .ref ((ma 3)), .ref ((ma 4)), .ref ((ma 5)), .int (iZ (td)), .int (iZ (mn)), .ref ((ma 6)), .ref ((ma 7)), .ref ((ma 8)), .ref ((ma 9)), .ref ((ma 10)), .ref ((ma 11)), .ref ((ma 12))])), ((ma 1), .inl (cA, 3, .inl (aR f))), ((ma 2), .inl (cA, 5, .inl (aR g))), ((ma 3), .inl (cJ, 5, .inr (.inl (aL rs)))), ((ma 4), .inl (cJ, 3, .inr (.inl (aL ww)))), ((ma 5), .inl (cJ, 5, .inr (.inl (aL mo)))), ((ma 6), .inl (cA, 2, .inl (aR dg))), ((ma 7), .inl (cJ, 26, .inr (.inl (aL pl)))), ((ma 8), .inl (cJ, 6, .inr (.inl (aL sl)))), ((ma 9), .inl (cJ, 20, .inr (.inl (aL lf)))), ((ma 10), .inl (cJ, 13, .inr (.inl (aL tl)))), ((ma 11), .inl (cJ, 41, .inr (.inl (aL rw)))), ((ma 12), .inl (cA, 2, .inl (aR rt)))] H := hP
  have hD : va_D A [((ma 0), .inr (5, [.int (iZ (0)), .ref ((ma 1)), .ref ((ma 2)), .ref ((ma 3)), .ref ((ma 4)), .ref ((ma 5)), .int (iZ (td)), .int (iZ (mn)), .ref ((ma 6)), .ref ((ma 7)), .ref ((ma 8)), .ref ((ma 9)), .ref ((ma 10)), .ref ((ma 11)), .ref ((ma 12))])), ((ma 1), .inl (cA, 3, .inl (aR f))), ((ma 2), .inl (cA, 5, .inl (aR g))), ((ma 3), .inl (cJ, 5, .inr (.inl (aL rs)))), ((ma 4), .inl (cJ, 3, .inr (.inl (aL ww)))), ((ma 5), .inl (cJ, 5, .inr (.inl (aL mo)))), ((ma 6), .inl (cA, 2, .inl (aR dg))), ((ma 7), .inl (cJ, 26, .inr (.inl (aL pl)))), ((ma 8), .inl (cJ, 6, .inr (.inl (aL sl)))), ((ma 9), .inl (cJ, 20, .inr (.inl (aL lf)))), ((ma 10), .inl (cJ, 13, .inr (.inl (aL tl)))), ((ma 11), .inl (cJ, 41, .inr (.inl (aL rw)))), ((ma 12), .inl (cA, 2, .inl (aR rt)))] := hD
  refine lv_lload_n hx hb d_Mod_move_5 rfl (lv_at hl 1 rfl) ?_
  refine w_rdl (va_runS (As := [.long (lZ (b))]) (rest := []) ⟨hx, hb, hml, hown, hts⟩ (c_modulo l b hb64) (va_cwS 1 hts g_Mod_61 rfl rfl rfl (by decide +kernel) ⟨Nat.le_of_ble_eq_true rfl, Nat.le_of_ble_eq_true rfl⟩) preEq rfl rfl hl.1 rfl (lv_room (Nat.le_of_ble_eq_true rfl)) d_Mod_move_6 ⟨Nat.le_of_ble_eq_true rfl, Nat.le_of_ble_eq_true rfl⟩) ?_
  have hm_6 := md_r b
  refine lv_lstore_n (lv' := [(3, .long (lZ (md b))), (0, .ref ((ma 0))), (1, .long (lZ (b)))]) hx hb d_Mod_move_9 rfl hl (by decide) rfl (fun ls hl => ?_)
  refine lv_iconst (v := iZ (0)) hx hb d_Mod_move_10 rfl ?_
  refine lv_istore (lv' := [(5, .int (iZ (0))), (3, .long (lZ (md b))), (0, .ref ((ma 0))), (1, .long (lZ (b)))]) hx hb d_Mod_move_11 hl (by decide) rfl (fun ls hl => ?_)
  have loop_13 : ∀ (m_13 : Nat) (low : Int) (a3 : Int → Int) (hlow : 0 ≤ low ∧ low ≤ 3) (hg0 : RoW 3 a3) (hinv : shO 3 (md b) (((3 : Nat) : Int) - low).toNat a3 = shO 3 (md b) 3 f) (hmeas : 3 - low < (m_13 : Int)) (H : Heap) (locs : List Loc) (hP : va_P (dC, dI) vC [((ma 0), .inr (5, [.int (iZ (0)), .ref ((ma 1)), .ref ((ma 2)), .ref ((ma 3)), .ref ((ma 4)), .ref ((ma 5)), .int (iZ (td)), .int (iZ (mn)), .ref ((ma 6)), .ref ((ma 7)), .ref ((ma 8)), .ref ((ma 9)), .ref ((ma 10)), .ref ((ma 11)), .ref ((ma 12))])), ((ma 1), .inl (cA, 3, .inl (aR a3))), ((ma 2), .inl (cA, 5, .inl (aR g))), ((ma 3), .inl (cJ, 5, .inr (.inl (aL rs)))), ((ma 4), .inl (cJ, 3, .inr (.inl (aL ww)))), ((ma 5), .inl (cJ, 5, .inr (.inl (aL mo)))), ((ma 6), .inl (cA, 2, .inl (aR dg))), ((ma 7), .inl (cJ, 26, .inr (.inl (aL pl)))), ((ma 8), .inl (cJ, 6, .inr (.inl (aL sl)))), ((ma 9), .inl (cJ, 20, .inr (.inl (aL lf)))), ((ma 10), .inl (cJ, 13, .inr (.inl (aL tl)))), ((ma 11), .inl (cJ, 41, .inr (.inl (aL rw)))), ((ma 12), .inl (cA, 2, .inl (aR rt)))] H) (hD : va_D A [((ma 0), .inr (5, [.int (iZ (0)), .ref ((ma 1)), .ref ((ma 2)), .ref ((ma 3)), .ref ((ma 4)), .ref ((ma 5)), .int (iZ (td)), .int (iZ (mn)), .ref ((ma 6)), .ref ((ma 7)), .ref ((ma 8)), .ref ((ma 9)), .ref ((ma 10)), .ref ((ma 11)), .ref ((ma 12))])), ((ma 1), .inl (cA, 3, .inl (aR a3))), ((ma 2), .inl (cA, 5, .inl (aR g))), ((ma 3), .inl (cJ, 5, .inr (.inl (aL rs)))), ((ma 4), .inl (cJ, 3, .inr (.inl (aL ww)))), ((ma 5), .inl (cJ, 5, .inr (.inl (aL mo)))), ((ma 6), .inl (cA, 2, .inl (aR dg))), ((ma 7), .inl (cJ, 26, .inr (.inl (aL pl)))), ((ma 8), .inl (cJ, 6, .inr (.inl (aL sl)))), ((ma 9), .inl (cJ, 20, .inr (.inl (aL lf)))), ((ma 10), .inl (cJ, 13, .inr (.inl (aL tl)))), ((ma 11), .inl (cJ, 41, .inr (.inl (aL rw)))), ((ma 12), .inl (cA, 2, .inl (aR rt)))]) (hS : va_S A s.heap H locs) (ls : Array Slot) (hl : lv_has ls 7 [(5, .int (iZ (low))), (3, .long (lZ (md b))), (0, .ref ((ma 0))), (1, .long (lZ (b)))]), W p l e ({ frames := 1, cells := 0, slots := 0, locals := 23 } : Room) s m ([.ref ((ma 0)), .long (lZ (b))] : List Value).toArray below meth c H locs 0 0 (MQ below (va_Qv (fun u : MS => u.2.2.2.2.2.2.2.2.2.2.1 = 0) (fun (u : MS) t => wB (dC, dI) vC A (mW cA cJ ma (shO 3 (md b) 3 f) (shO 5 (md b) 5 g) u) t) A) ([.ref ((ma 0)), .long (lZ (b))] : List Value).toArray s 0 0 A) (F0 m 13 ls []) := by
    intro m_13
    induction m_13 with
    | zero =>
      intro low a3 hlow hg0 hinv hmeas
      exfalso; omega
    | succ m_13 ih_13 =>
      intro low a3 hlow hg0 hinv hmeas H locs hP hD hS ls hl
      refine lv_iload hx hb d_Mod_move_13 (lv_at hl 0 rfl) ?_
      refine lv_iconst (v := iZ (3)) hx hb d_Mod_move_15 rfl ?_
      refine z_icmp_ge (tgt := 74) hx hb d_Mod_move_16 (by decide) (by omega) (by omega) (fun c_16 => ?_) (fun c_16 => ?_)
      · have hz : (((3 : Nat) : Int) - low).toNat = 0 := by omega
        rw [hz] at hinv
        change a3 = _ at hinv
        rw [hinv] at hP hD
        refine lv_iconst (v := iZ (0)) hx hb d_Mod_move_74 rfl ?_
        refine lv_istore (lv' := [(5, .int (iZ (0))), (3, .long (lZ (md b))), (0, .ref ((ma 0))), (1, .long (lZ (b)))]) hx hb d_Mod_move_75 hl (by decide) rfl (fun ls hl => ?_)
        have loop_77 : ∀ (m_77 : Nat) (low : Int) (a5 : Int → Int) (hlow : 0 ≤ low ∧ low ≤ 5) (hg0 : RoW 5 a5) (hinv : shO 5 (md b) (((5 : Nat) : Int) - low).toNat a5 = shO 5 (md b) 5 g) (hmeas : 5 - low < (m_77 : Int)) (H : Heap) (locs : List Loc) (hP : va_P (dC, dI) vC [((ma 0), .inr (5, [.int (iZ (0)), .ref ((ma 1)), .ref ((ma 2)), .ref ((ma 3)), .ref ((ma 4)), .ref ((ma 5)), .int (iZ (td)), .int (iZ (mn)), .ref ((ma 6)), .ref ((ma 7)), .ref ((ma 8)), .ref ((ma 9)), .ref ((ma 10)), .ref ((ma 11)), .ref ((ma 12))])), ((ma 1), .inl (cA, 3, .inl (aR (shO 3 (md b) 3 f)))), ((ma 2), .inl (cA, 5, .inl (aR a5))), ((ma 3), .inl (cJ, 5, .inr (.inl (aL rs)))), ((ma 4), .inl (cJ, 3, .inr (.inl (aL ww)))), ((ma 5), .inl (cJ, 5, .inr (.inl (aL mo)))), ((ma 6), .inl (cA, 2, .inl (aR dg))), ((ma 7), .inl (cJ, 26, .inr (.inl (aL pl)))), ((ma 8), .inl (cJ, 6, .inr (.inl (aL sl)))), ((ma 9), .inl (cJ, 20, .inr (.inl (aL lf)))), ((ma 10), .inl (cJ, 13, .inr (.inl (aL tl)))), ((ma 11), .inl (cJ, 41, .inr (.inl (aL rw)))), ((ma 12), .inl (cA, 2, .inl (aR rt)))] H) (hD : va_D A [((ma 0), .inr (5, [.int (iZ (0)), .ref ((ma 1)), .ref ((ma 2)), .ref ((ma 3)), .ref ((ma 4)), .ref ((ma 5)), .int (iZ (td)), .int (iZ (mn)), .ref ((ma 6)), .ref ((ma 7)), .ref ((ma 8)), .ref ((ma 9)), .ref ((ma 10)), .ref ((ma 11)), .ref ((ma 12))])), ((ma 1), .inl (cA, 3, .inl (aR (shO 3 (md b) 3 f)))), ((ma 2), .inl (cA, 5, .inl (aR a5))), ((ma 3), .inl (cJ, 5, .inr (.inl (aL rs)))), ((ma 4), .inl (cJ, 3, .inr (.inl (aL ww)))), ((ma 5), .inl (cJ, 5, .inr (.inl (aL mo)))), ((ma 6), .inl (cA, 2, .inl (aR dg))), ((ma 7), .inl (cJ, 26, .inr (.inl (aL pl)))), ((ma 8), .inl (cJ, 6, .inr (.inl (aL sl)))), ((ma 9), .inl (cJ, 20, .inr (.inl (aL lf)))), ((ma 10), .inl (cJ, 13, .inr (.inl (aL tl)))), ((ma 11), .inl (cJ, 41, .inr (.inl (aL rw)))), ((ma 12), .inl (cA, 2, .inl (aR rt)))]) (hS : va_S A s.heap H locs) (ls : Array Slot) (hl : lv_has ls 7 [(5, .int (iZ (low))), (3, .long (lZ (md b))), (0, .ref ((ma 0))), (1, .long (lZ (b)))]), W p l e ({ frames := 1, cells := 0, slots := 0, locals := 23 } : Room) s m ([.ref ((ma 0)), .long (lZ (b))] : List Value).toArray below meth c H locs 0 0 (MQ below (va_Qv (fun u : MS => u.2.2.2.2.2.2.2.2.2.2.1 = 0) (fun (u : MS) t => wB (dC, dI) vC A (mW cA cJ ma (shO 3 (md b) 3 f) (shO 5 (md b) 5 g) u) t) A) ([.ref ((ma 0)), .long (lZ (b))] : List Value).toArray s 0 0 A) (F0 m 77 ls []) := by
          intro m_77
          induction m_77 with
          | zero =>
            intro low a5 hlow hg0 hinv hmeas
            exfalso; omega
          | succ m_77 ih_77 =>
            intro low a5 hlow hg0 hinv hmeas H locs hP hD hS ls hl
            refine lv_iload hx hb d_Mod_move_77 (lv_at hl 0 rfl) ?_
            refine lv_iconst (v := iZ (5)) hx hb d_Mod_move_79 rfl ?_
            refine z_icmp_ge (tgt := 138) hx hb d_Mod_move_80 (by decide) (by omega) (by omega) (fun c_80 => ?_) (fun c_80 => ?_)
            · have hz : (((5 : Nat) : Int) - low).toNat = 0 := by omega
              rw [hz] at hinv
              change a5 = _ at hinv
              rw [hinv] at hP hD
              exact w_vret (post := fun u : MS => u.2.2.2.2.2.2.2.2.2.2.1 = 0) (wn := fun (u : MS) => mW cA cJ ma (shO 3 (md b) 3 f) (shO 5 (md b) 5 g) u) hx hb hr hlocks (rs, ww, mo, dg, pl, sl, lf, tl, rw, rt, 0, td, mn) rfl hP hD hS d_Mod_move_138
            · refine lv_iconst (v := iZ (3)) hx hb d_Mod_move_83 rfl ?_
              refine lv_istore (lv' := [(6, .int (iZ (3))), (5, .int (iZ (low))), (3, .long (lZ (md b))), (0, .ref ((ma 0))), (1, .long (lZ (b)))]) hx hb d_Mod_move_84 hl (by decide) rfl (fun ls hl => ?_)
              have loop_86 : ∀ (m_86 : Nat) (i : Int) (b5 : Int → Int) (hi : low - 1 ≤ i ∧ i ≤ 3) (hg1 : RoW 5 b5) (hinv2 : shO 5 (md b) (((5 : Nat) : Int) - (low + 1)).toNat (shI low (md b) (i - low + 1).toNat b5) = shO 5 (md b) (((5 : Nat) : Int) - low).toNat a5) (hmeas : i - low + 1 < (m_86 : Int)) (H : Heap) (locs : List Loc) (hP : va_P (dC, dI) vC [((ma 0), .inr (5, [.int (iZ (0)), .ref ((ma 1)), .ref ((ma 2)), .ref ((ma 3)), .ref ((ma 4)), .ref ((ma 5)), .int (iZ (td)), .int (iZ (mn)), .ref ((ma 6)), .ref ((ma 7)), .ref ((ma 8)), .ref ((ma 9)), .ref ((ma 10)), .ref ((ma 11)), .ref ((ma 12))])), ((ma 1), .inl (cA, 3, .inl (aR (shO 3 (md b) 3 f)))), ((ma 2), .inl (cA, 5, .inl (aR b5))), ((ma 3), .inl (cJ, 5, .inr (.inl (aL rs)))), ((ma 4), .inl (cJ, 3, .inr (.inl (aL ww)))), ((ma 5), .inl (cJ, 5, .inr (.inl (aL mo)))), ((ma 6), .inl (cA, 2, .inl (aR dg))), ((ma 7), .inl (cJ, 26, .inr (.inl (aL pl)))), ((ma 8), .inl (cJ, 6, .inr (.inl (aL sl)))), ((ma 9), .inl (cJ, 20, .inr (.inl (aL lf)))), ((ma 10), .inl (cJ, 13, .inr (.inl (aL tl)))), ((ma 11), .inl (cJ, 41, .inr (.inl (aL rw)))), ((ma 12), .inl (cA, 2, .inl (aR rt)))] H) (hD : va_D A [((ma 0), .inr (5, [.int (iZ (0)), .ref ((ma 1)), .ref ((ma 2)), .ref ((ma 3)), .ref ((ma 4)), .ref ((ma 5)), .int (iZ (td)), .int (iZ (mn)), .ref ((ma 6)), .ref ((ma 7)), .ref ((ma 8)), .ref ((ma 9)), .ref ((ma 10)), .ref ((ma 11)), .ref ((ma 12))])), ((ma 1), .inl (cA, 3, .inl (aR (shO 3 (md b) 3 f)))), ((ma 2), .inl (cA, 5, .inl (aR b5))), ((ma 3), .inl (cJ, 5, .inr (.inl (aL rs)))), ((ma 4), .inl (cJ, 3, .inr (.inl (aL ww)))), ((ma 5), .inl (cJ, 5, .inr (.inl (aL mo)))), ((ma 6), .inl (cA, 2, .inl (aR dg))), ((ma 7), .inl (cJ, 26, .inr (.inl (aL pl)))), ((ma 8), .inl (cJ, 6, .inr (.inl (aL sl)))), ((ma 9), .inl (cJ, 20, .inr (.inl (aL lf)))), ((ma 10), .inl (cJ, 13, .inr (.inl (aL tl)))), ((ma 11), .inl (cJ, 41, .inr (.inl (aL rw)))), ((ma 12), .inl (cA, 2, .inl (aR rt)))]) (hS : va_S A s.heap H locs) (ls : Array Slot) (hl : lv_has ls 7 [(6, .int (iZ (i))), (5, .int (iZ (low))), (3, .long (lZ (md b))), (0, .ref ((ma 0))), (1, .long (lZ (b)))]), W p l e ({ frames := 1, cells := 0, slots := 0, locals := 23 } : Room) s m ([.ref ((ma 0)), .long (lZ (b))] : List Value).toArray below meth c H locs 0 0 (MQ below (va_Qv (fun u : MS => u.2.2.2.2.2.2.2.2.2.2.1 = 0) (fun (u : MS) t => wB (dC, dI) vC A (mW cA cJ ma (shO 3 (md b) 3 f) (shO 5 (md b) 5 g) u) t) A) ([.ref ((ma 0)), .long (lZ (b))] : List Value).toArray s 0 0 A) (F0 m 86 ls []) := by
                intro m_86
                induction m_86 with
                | zero =>
                  intro i b5 hi hg1 hinv2 hmeas
                  exfalso; omega
                | succ m_86 ih_86 =>
                  intro i b5 hi hg1 hinv2 hmeas H locs hP hD hS ls hl
                  refine lv_iload hx hb d_Mod_move_86 (lv_at hl 0 rfl) ?_
                  refine lv_iload hx hb d_Mod_move_88 (lv_at hl 1 rfl) ?_
                  refine z_icmp_lt (tgt := 132) hx hb d_Mod_move_90 (by decide) (by omega) (by omega) (fun c_90 => ?_) (fun c_90 => ?_)
                  · refine z_iinc (lv' := [(5, .int (iZ (low + 1))), (6, .int (iZ (i))), (3, .long (lZ (md b))), (0, .ref ((ma 0))), (1, .long (lZ (b)))]) hx hb d_Mod_move_132 hl (k := 1) rfl (by decide) rfl (fun ls hl => ?_)
                    refine lv_goto (tgt := 77) hx hb d_Mod_move_135 (by decide) ?_
                    exact ih_77 (low + 1) b5 (by omega) hg1 (by rw [← hinv, ← hinv2, show (i - low + 1).toNat = 0 by omega]; rfl) (by omega) _ _ hP hD hS ls (lv_sub hl [0, 2, 3, 4] rfl)
                  · have hq1 := hg1.r i
                    have hq2 := hg1.r (i + 1)
                    have hq3 := mul_bd (md_r b) hq2
                    refine lv_aload_n hx hb d_Mod_move_93 rfl (lv_at hl 3 rfl) ?_
                    refine va_get (D := (dC, dI)) (ci := 5) (v := .ref ((ma 2))) (C := "OrderTwoCasesModel") (T := F_Mod) (N := 15) hx hb hts la_Mod hown hK hP 0 rfl rfl 2 (by decide) (hts _ k_466) (fun _ h9 => h9) rfl d_Mod_move_94 ?_
                    refine lv_iload hx hb d_Mod_move_97 (lv_at hl 0 rfl) ?_
                    refine lv_aload_n hx hb d_Mod_move_99 rfl (lv_at hl 3 rfl) ?_
                    refine va_get (D := (dC, dI)) (ci := 5) (v := .ref ((ma 2))) (C := "OrderTwoCasesModel") (T := F_Mod) (N := 15) hx hb hts la_Mod hown hK hP 0 rfl rfl 2 (by decide) (hts _ k_466) (fun _ h9 => h9) rfl d_Mod_move_100 ?_
                    refine lv_iload hx hb d_Mod_move_103 (lv_at hl 0 rfl) ?_
                    refine z_iald hx hb hK hP 2 0 rfl rfl (by omega) (by omega) (by omega) d_Mod_move_105 ?_
                    refine z_i2l hx hb d_Mod_move_106 (by omega) ?_
                    refine lv_lload_n hx hb d_Mod_move_107 rfl (lv_at hl 2 rfl) ?_
                    refine lv_aload_n hx hb d_Mod_move_108 rfl (lv_at hl 3 rfl) ?_
                    refine va_get (D := (dC, dI)) (ci := 5) (v := .ref ((ma 2))) (C := "OrderTwoCasesModel") (T := F_Mod) (N := 15) hx hb hts la_Mod hown hK hP 0 rfl rfl 2 (by decide) (hts _ k_466) (fun _ h9 => h9) rfl d_Mod_move_109 ?_
                    refine lv_iload hx hb d_Mod_move_112 (lv_at hl 0 rfl) ?_
                    refine lv_iconst (v := iZ (1)) hx hb d_Mod_move_114 rfl ?_
                    refine z_iadd hx hb d_Mod_move_115 ?_
                    refine z_iald hx hb hK hP 2 0 rfl rfl (by omega) (by omega) (by omega) d_Mod_move_116 ?_
                    refine z_i2l hx hb d_Mod_move_117 (by omega) ?_
                    refine z_lmul hx hb d_Mod_move_118 ?_
                    refine z_ladd hx hb d_Mod_move_119 ?_
                    refine lv_ldc2 (v := lZ (32003)) hx hb hown (show (Jvm.Cond.constantLong "OrderTwoCasesModel" 51 (lZ (32003))).before _ s = true from hts _ k_527) d_Mod_move_120 ?_
                    refine z_lremmd hx hb d_Mod_move_123 (by omega) ?_
                    refine z_l2i hx hb d_Mod_move_124 ?_
                    refine z_iast (wf := [((ma 0), .inr (5, [.int (iZ (0)), .ref ((ma 1)), .ref ((ma 2)), .ref ((ma 3)), .ref ((ma 4)), .ref ((ma 5)), .int (iZ (td)), .int (iZ (mn)), .ref ((ma 6)), .ref ((ma 7)), .ref ((ma 8)), .ref ((ma 9)), .ref ((ma 10)), .ref ((ma 11)), .ref ((ma 12))])), ((ma 1), .inl (cA, 3, .inl (aR (shO 3 (md b) 3 f)))), ((ma 2), .inl (cA, 5, .inl (aR (sT b5 i (md ((b5 i) + ((md b) * (b5 (i + 1))))))))), ((ma 3), .inl (cJ, 5, .inr (.inl (aL rs)))), ((ma 4), .inl (cJ, 3, .inr (.inl (aL ww)))), ((ma 5), .inl (cJ, 5, .inr (.inl (aL mo)))), ((ma 6), .inl (cA, 2, .inl (aR dg))), ((ma 7), .inl (cJ, 26, .inr (.inl (aL pl)))), ((ma 8), .inl (cJ, 6, .inr (.inl (aL sl)))), ((ma 9), .inl (cJ, 20, .inr (.inl (aL lf)))), ((ma 10), .inl (cJ, 13, .inr (.inl (aL tl)))), ((ma 11), .inl (cJ, 41, .inr (.inl (aL rw)))), ((ma 12), .inl (cA, 2, .inl (aR rt)))]) hx hb hK hP hD hS 2 0 rfl rfl (by omega) (by omega) (by omega) d_Mod_move_125 rfl (fun H locs hP hD hS => ?_)
                    refine z_iinc (lv' := [(6, .int (iZ (i + (-1)))), (5, .int (iZ (low))), (3, .long (lZ (md b))), (0, .ref ((ma 0))), (1, .long (lZ (b)))]) hx hb d_Mod_move_126 hl (k := 0) rfl (by decide) rfl (fun ls hl => ?_)
                    refine lv_goto (tgt := 86) hx hb d_Mod_move_129 (by decide) ?_
                    exact ih_86 (i + -1) (sT b5 i (md ((b5 i) + ((md b) * (b5 (i + 1)))))) (by omega) (hg1.sT (by omega) (md_r _)) (by rw [← hinv2]; exact sh_in (by omega)) (by omega) _ _ hP hD hS ls (lv_sub hl [0, 1, 2, 3, 4] rfl)
              exact loop_86 6 3 a5 (by omega) hg0 (by have h9 := sh_open (n := 5) (v := md b) (low := low) (g := a5) (by omega); exact h9) (by omega) _ _ hP hD hS ls (lv_sub hl [0, 1, 2, 3, 4] rfl)
        exact loop_77 6 0 g (by omega) hg (by congr 1) (by omega) _ _ hP hD hS ls (lv_sub hl [0, 1, 2, 3] rfl)
      · refine lv_iconst (v := iZ (1)) hx hb d_Mod_move_19 rfl ?_
        refine lv_istore (lv' := [(6, .int (iZ (1))), (5, .int (iZ (low))), (3, .long (lZ (md b))), (0, .ref ((ma 0))), (1, .long (lZ (b)))]) hx hb d_Mod_move_20 hl (by decide) rfl (fun ls hl => ?_)
        have loop_22 : ∀ (m_22 : Nat) (i : Int) (b3 : Int → Int) (hi : low - 1 ≤ i ∧ i ≤ 1) (hg1 : RoW 3 b3) (hinv2 : shO 3 (md b) (((3 : Nat) : Int) - (low + 1)).toNat (shI low (md b) (i - low + 1).toNat b3) = shO 3 (md b) (((3 : Nat) : Int) - low).toNat a3) (hmeas : i - low + 1 < (m_22 : Int)) (H : Heap) (locs : List Loc) (hP : va_P (dC, dI) vC [((ma 0), .inr (5, [.int (iZ (0)), .ref ((ma 1)), .ref ((ma 2)), .ref ((ma 3)), .ref ((ma 4)), .ref ((ma 5)), .int (iZ (td)), .int (iZ (mn)), .ref ((ma 6)), .ref ((ma 7)), .ref ((ma 8)), .ref ((ma 9)), .ref ((ma 10)), .ref ((ma 11)), .ref ((ma 12))])), ((ma 1), .inl (cA, 3, .inl (aR b3))), ((ma 2), .inl (cA, 5, .inl (aR g))), ((ma 3), .inl (cJ, 5, .inr (.inl (aL rs)))), ((ma 4), .inl (cJ, 3, .inr (.inl (aL ww)))), ((ma 5), .inl (cJ, 5, .inr (.inl (aL mo)))), ((ma 6), .inl (cA, 2, .inl (aR dg))), ((ma 7), .inl (cJ, 26, .inr (.inl (aL pl)))), ((ma 8), .inl (cJ, 6, .inr (.inl (aL sl)))), ((ma 9), .inl (cJ, 20, .inr (.inl (aL lf)))), ((ma 10), .inl (cJ, 13, .inr (.inl (aL tl)))), ((ma 11), .inl (cJ, 41, .inr (.inl (aL rw)))), ((ma 12), .inl (cA, 2, .inl (aR rt)))] H) (hD : va_D A [((ma 0), .inr (5, [.int (iZ (0)), .ref ((ma 1)), .ref ((ma 2)), .ref ((ma 3)), .ref ((ma 4)), .ref ((ma 5)), .int (iZ (td)), .int (iZ (mn)), .ref ((ma 6)), .ref ((ma 7)), .ref ((ma 8)), .ref ((ma 9)), .ref ((ma 10)), .ref ((ma 11)), .ref ((ma 12))])), ((ma 1), .inl (cA, 3, .inl (aR b3))), ((ma 2), .inl (cA, 5, .inl (aR g))), ((ma 3), .inl (cJ, 5, .inr (.inl (aL rs)))), ((ma 4), .inl (cJ, 3, .inr (.inl (aL ww)))), ((ma 5), .inl (cJ, 5, .inr (.inl (aL mo)))), ((ma 6), .inl (cA, 2, .inl (aR dg))), ((ma 7), .inl (cJ, 26, .inr (.inl (aL pl)))), ((ma 8), .inl (cJ, 6, .inr (.inl (aL sl)))), ((ma 9), .inl (cJ, 20, .inr (.inl (aL lf)))), ((ma 10), .inl (cJ, 13, .inr (.inl (aL tl)))), ((ma 11), .inl (cJ, 41, .inr (.inl (aL rw)))), ((ma 12), .inl (cA, 2, .inl (aR rt)))]) (hS : va_S A s.heap H locs) (ls : Array Slot) (hl : lv_has ls 7 [(6, .int (iZ (i))), (5, .int (iZ (low))), (3, .long (lZ (md b))), (0, .ref ((ma 0))), (1, .long (lZ (b)))]), W p l e ({ frames := 1, cells := 0, slots := 0, locals := 23 } : Room) s m ([.ref ((ma 0)), .long (lZ (b))] : List Value).toArray below meth c H locs 0 0 (MQ below (va_Qv (fun u : MS => u.2.2.2.2.2.2.2.2.2.2.1 = 0) (fun (u : MS) t => wB (dC, dI) vC A (mW cA cJ ma (shO 3 (md b) 3 f) (shO 5 (md b) 5 g) u) t) A) ([.ref ((ma 0)), .long (lZ (b))] : List Value).toArray s 0 0 A) (F0 m 22 ls []) := by
          intro m_22
          induction m_22 with
          | zero =>
            intro i b3 hi hg1 hinv2 hmeas
            exfalso; omega
          | succ m_22 ih_22 =>
            intro i b3 hi hg1 hinv2 hmeas H locs hP hD hS ls hl
            refine lv_iload hx hb d_Mod_move_22 (lv_at hl 0 rfl) ?_
            refine lv_iload hx hb d_Mod_move_24 (lv_at hl 1 rfl) ?_
            refine z_icmp_lt (tgt := 68) hx hb d_Mod_move_26 (by decide) (by omega) (by omega) (fun c_26 => ?_) (fun c_26 => ?_)
            · refine z_iinc (lv' := [(5, .int (iZ (low + 1))), (6, .int (iZ (i))), (3, .long (lZ (md b))), (0, .ref ((ma 0))), (1, .long (lZ (b)))]) hx hb d_Mod_move_68 hl (k := 1) rfl (by decide) rfl (fun ls hl => ?_)
              refine lv_goto (tgt := 13) hx hb d_Mod_move_71 (by decide) ?_
              exact ih_13 (low + 1) b3 (by omega) hg1 (by rw [← hinv, ← hinv2, show (i - low + 1).toNat = 0 by omega]; rfl) (by omega) _ _ hP hD hS ls (lv_sub hl [0, 2, 3, 4] rfl)
            · have hq1 := hg1.r i
              have hq2 := hg1.r (i + 1)
              have hq3 := mul_bd (md_r b) hq2
              refine lv_aload_n hx hb d_Mod_move_29 rfl (lv_at hl 3 rfl) ?_
              refine va_get (D := (dC, dI)) (ci := 5) (v := .ref ((ma 1))) (C := "OrderTwoCasesModel") (T := F_Mod) (N := 15) hx hb hts la_Mod hown hK hP 0 rfl rfl 1 (by decide) (hts _ k_465) (fun _ h9 => h9) rfl d_Mod_move_30 ?_
              refine lv_iload hx hb d_Mod_move_33 (lv_at hl 0 rfl) ?_
              refine lv_aload_n hx hb d_Mod_move_35 rfl (lv_at hl 3 rfl) ?_
              refine va_get (D := (dC, dI)) (ci := 5) (v := .ref ((ma 1))) (C := "OrderTwoCasesModel") (T := F_Mod) (N := 15) hx hb hts la_Mod hown hK hP 0 rfl rfl 1 (by decide) (hts _ k_465) (fun _ h9 => h9) rfl d_Mod_move_36 ?_
              refine lv_iload hx hb d_Mod_move_39 (lv_at hl 0 rfl) ?_
              refine z_iald hx hb hK hP 1 0 rfl rfl (by omega) (by omega) (by omega) d_Mod_move_41 ?_
              refine z_i2l hx hb d_Mod_move_42 (by omega) ?_
              refine lv_lload_n hx hb d_Mod_move_43 rfl (lv_at hl 2 rfl) ?_
              refine lv_aload_n hx hb d_Mod_move_44 rfl (lv_at hl 3 rfl) ?_
              refine va_get (D := (dC, dI)) (ci := 5) (v := .ref ((ma 1))) (C := "OrderTwoCasesModel") (T := F_Mod) (N := 15) hx hb hts la_Mod hown hK hP 0 rfl rfl 1 (by decide) (hts _ k_465) (fun _ h9 => h9) rfl d_Mod_move_45 ?_
              refine lv_iload hx hb d_Mod_move_48 (lv_at hl 0 rfl) ?_
              refine lv_iconst (v := iZ (1)) hx hb d_Mod_move_50 rfl ?_
              refine z_iadd hx hb d_Mod_move_51 ?_
              refine z_iald hx hb hK hP 1 0 rfl rfl (by omega) (by omega) (by omega) d_Mod_move_52 ?_
              refine z_i2l hx hb d_Mod_move_53 (by omega) ?_
              refine z_lmul hx hb d_Mod_move_54 ?_
              refine z_ladd hx hb d_Mod_move_55 ?_
              refine lv_ldc2 (v := lZ (32003)) hx hb hown (show (Jvm.Cond.constantLong "OrderTwoCasesModel" 51 (lZ (32003))).before _ s = true from hts _ k_527) d_Mod_move_56 ?_
              refine z_lremmd hx hb d_Mod_move_59 (by omega) ?_
              refine z_l2i hx hb d_Mod_move_60 ?_
              refine z_iast (wf := [((ma 0), .inr (5, [.int (iZ (0)), .ref ((ma 1)), .ref ((ma 2)), .ref ((ma 3)), .ref ((ma 4)), .ref ((ma 5)), .int (iZ (td)), .int (iZ (mn)), .ref ((ma 6)), .ref ((ma 7)), .ref ((ma 8)), .ref ((ma 9)), .ref ((ma 10)), .ref ((ma 11)), .ref ((ma 12))])), ((ma 1), .inl (cA, 3, .inl (aR (sT b3 i (md ((b3 i) + ((md b) * (b3 (i + 1))))))))), ((ma 2), .inl (cA, 5, .inl (aR g))), ((ma 3), .inl (cJ, 5, .inr (.inl (aL rs)))), ((ma 4), .inl (cJ, 3, .inr (.inl (aL ww)))), ((ma 5), .inl (cJ, 5, .inr (.inl (aL mo)))), ((ma 6), .inl (cA, 2, .inl (aR dg))), ((ma 7), .inl (cJ, 26, .inr (.inl (aL pl)))), ((ma 8), .inl (cJ, 6, .inr (.inl (aL sl)))), ((ma 9), .inl (cJ, 20, .inr (.inl (aL lf)))), ((ma 10), .inl (cJ, 13, .inr (.inl (aL tl)))), ((ma 11), .inl (cJ, 41, .inr (.inl (aL rw)))), ((ma 12), .inl (cA, 2, .inl (aR rt)))]) hx hb hK hP hD hS 1 0 rfl rfl (by omega) (by omega) (by omega) d_Mod_move_61 rfl (fun H locs hP hD hS => ?_)
              refine z_iinc (lv' := [(6, .int (iZ (i + (-1)))), (5, .int (iZ (low))), (3, .long (lZ (md b))), (0, .ref ((ma 0))), (1, .long (lZ (b)))]) hx hb d_Mod_move_62 hl (k := 0) rfl (by decide) rfl (fun ls hl => ?_)
              refine lv_goto (tgt := 22) hx hb d_Mod_move_65 (by decide) ?_
              exact ih_22 (i + -1) (sT b3 i (md ((b3 i) + ((md b) * (b3 (i + 1)))))) (by omega) (hg1.sT (by omega) (md_r _)) (by rw [← hinv2]; exact sh_in (by omega)) (by omega) _ _ hP hD hS ls (lv_sub hl [0, 1, 2, 3, 4] rfl)
        exact loop_22 4 1 a3 (by omega) hg0 (by have h9 := sh_open (n := 3) (v := md b) (low := low) (g := a3) (by omega); exact h9) (by omega) _ _ hP hD hS ls (lv_sub hl [0, 1, 2, 3, 4] rfl)
  exact loop_13 4 0 f (by omega) hf (by congr 1) (by omega) _ _ hP hD hS ls (lv_sub hl [0, 1, 2, 3] rfl)
