set_option maxHeartbeats 4000000 in
set_option maxRecDepth 100000 in
/-- seriesAt(a, b, pw) -/
theorem c_seriesAt (l : Launch) (dC : Nat → ClassId) (dI : Nat → Nat → Nat) (cA cJ : ClassId) (sz : Nat) (ma : Nat → Nat) (f g rs ww mo dg pl sl lf tl rw rt : Int → Int) (cd td mn : Int) (hf : RoW 3 f) (hg : RoW 5 g) (a b pw : Int) (ha : -9223372036854775808 ≤ a ∧ a < 9223372036854775808) (hb64 : -9223372036854775808 ≤ b ∧ b < 9223372036854775808) (hpw : 0 ≤ pw ∧ pw ≤ 40) : Met l y_Mod_seriesAt w_Mod_seriesAt ({ frames := 1, cells := 0, slots := 0, locals := 26 }) (va_Pc [.ref ((ma 0)), .long (lZ (a)), .long (lZ (b)), .int (iZ (pw))] (wP (dC, dI) vC [(cA, .int), (cJ, .long)] (mW cA cJ ma f g (rs, ww, mo, dg, pl, sl, lf, tl, rw, rt, cd, td, mn)) sz)) (va_Qi (fun (r9 : Int32) (u : MS) => r9 = iZ (srz f g (md a) (md b) pw) ∧ cd = u.2.2.2.2.2.2.2.2.2.2.1) (fun (u : MS) t => wB (dC, dI) vC (va_A (mW cA cJ ma f g (rs, ww, mo, dg, pl, sl, lf, tl, rw, rt, cd, td, mn)) sz) (mW cA cJ ma f g u) t) (va_A (mW cA cJ ma f g (rs, ww, mo, dg, pl, sl, lf, tl, rw, rt, cd, td, mn)) sz)) 0 0 (va_A (mW cA cJ ma f g (rs, ww, mo, dg, pl, sl, lf, tl, rw, rt, cd, td, mn)) sz) := by
  refine Met.ofW (cc := b_Mod_seriesAt) (maxL := 10) (ret := (Option.some Jvm.ClassFile.FieldType.int)) (by decide) rfl ?_
  intro p e s m args below meth c s₁ B hml hv
  obtain ⟨rfl, hsz, hP, hK, hD0⟩ := hv
  have hx := B.exec
  have hb := B.bytes
  have hr := B.returns
  have hts : ∀ w ∈ tT, w.before _ s = true := fun w h => atoms_spec (ws := w_Mod_seriesAt) B.pre w (List.mem_cons_of_mem _ h)
  have hown : s.vm.findClass "OrderTwoCasesModel" = some m.cls := findClass_of_methodNamed B.named
  have hlocks := B.notSynchronized
  subst hsz
  have hD := hD0.self (sz := s.heap.size)
  generalize hAe : va_A (mW cA cJ ma f g (rs, ww, mo, dg, pl, sl, lf, tl, rw, rt, cd, td, mn)) s.heap.size = A at hD ⊢
  have hA : ∀ q : Nat, s.heap.size ≤ q → A q := fun q h => by rw [← hAe]; exact Or.inr h
  have hS : va_S A s.heap s.heap [] := va_S.rf
  have hl := lv_entry ([.ref ((ma 0)), .long (lZ (a)), .long (lZ (b)), .int (iZ (pw))]) (n := 10) (Nat.le_of_ble_eq_true rfl)
  rw [lg_entry_eq]
  generalize (lg_sl ([.ref ((ma 0)), .long (lZ (a)), .long (lZ (b)), .int (iZ (pw))]) ++ List.replicate (10 - (lg_sl ([.ref ((ma 0)), .long (lZ (a)), .long (lZ (b)), .int (iZ (pw))])).length) Slot.unset).toArray = ls at hl ⊢
  have hl : lv_has ls 10 [(0, .ref ((ma 0))), (1, .long (lZ (a))), (3, .long (lZ (b))), (5, .int (iZ (pw)))] := hl
  have hP : va_P (dC, dI) vC [((ma 0), .inr (5, [.int (iZ (cd)), .ref ((ma 1)), .ref ((ma 2)), .ref ((ma 3)), .ref ((ma 4)), .ref ((ma 5)), .int (iZ (td)), .int (iZ (mn)), .ref ((ma 6)), .ref ((ma 7)), .ref ((ma 8)), .ref ((ma 9)), .ref ((ma 10)), .ref ((ma 11)), .ref ((ma 12))])), ((ma 1), .inl (cA, 3, .inl (aR f))), ((ma 2), .inl (cA, 5, .inl (aR g))), ((ma 3), .inl (cJ, 5, .inr (.inl (aL rs)))), ((ma 4), .inl (cJ, 3, .inr (.inl (aL ww)))), ((ma 5), .inl (cJ, 5, .inr (.inl (aL mo)))), ((ma 6), .inl (cA, 2, .inl (aR dg))), ((ma 7), .inl (cJ, 26, .inr (.inl (aL pl)))), ((ma 8), .inl (cJ, 6, .inr (.inl (aL sl)))), ((ma 9), .inl (cJ, 20, .inr (.inl (aL lf)))), ((ma 10), .inl (cJ, 13, .inr (.inl (aL tl)))), ((ma 11), .inl (cJ, 41, .inr (.inl (aL rw)))), ((ma 12), .inl (cA, 2, .inl (aR rt)))] s.heap := hP
  have hD : va_D A [((ma 0), .inr (5, [.int (iZ (cd)), .ref ((ma 1)), .ref ((ma 2)), .ref ((ma 3)), .ref ((ma 4)), .ref ((ma 5)), .int (iZ (td)), .int (iZ (mn)), .ref ((ma 6)), .ref ((ma 7)), .ref ((ma 8)), .ref ((ma 9)), .ref ((ma 10)), .ref ((ma 11)), .ref ((ma 12))])), ((ma 1), .inl (cA, 3, .inl (aR f))), ((ma 2), .inl (cA, 5, .inl (aR g))), ((ma 3), .inl (cJ, 5, .inr (.inl (aL rs)))), ((ma 4), .inl (cJ, 3, .inr (.inl (aL ww)))), ((ma 5), .inl (cJ, 5, .inr (.inl (aL mo)))), ((ma 6), .inl (cA, 2, .inl (aR dg))), ((ma 7), .inl (cJ, 26, .inr (.inl (aL pl)))), ((ma 8), .inl (cJ, 6, .inr (.inl (aL sl)))), ((ma 9), .inl (cJ, 20, .inr (.inl (aL lf)))), ((ma 10), .inl (cJ, 13, .inr (.inl (aL tl)))), ((ma 11), .inl (cJ, 41, .inr (.inl (aL rw)))), ((ma 12), .inl (cA, 2, .inl (aR rt)))] := hD
  obtain ⟨hP, hD⟩ := wfixL (wf := [((ma 0), .inr (5, [.int (iZ (cd)), .ref ((ma 1)), .ref ((ma 2)), .ref ((ma 3)), .ref ((ma 4)), .ref ((ma 5)), .int (iZ (td)), .int (iZ (mn)), .ref ((ma 6)), .ref ((ma 7)), .ref ((ma 8)), .ref ((ma 9)), .ref ((ma 10)), .ref ((ma 11)), .ref ((ma 12))])), ((ma 1), .inl (cA, 3, .inl (aR f))), ((ma 2), .inl (cA, 5, .inl (aR g))), ((ma 3), .inl (cJ, 5, .inr (.inl (aL rs)))), ((ma 4), .inl (cJ, 3, .inr (.inl (aL ww)))), ((ma 5), .inl (cJ, 5, .inr (.inl (aL mo)))), ((ma 6), .inl (cA, 2, .inl (aR dg))), ((ma 7), .inl (cJ, 26, .inr (.inl (aL pl)))), ((ma 8), .inl (cJ, 6, .inr (.inl (aL sl)))), ((ma 9), .inl (cJ, 20, .inr (.inl (aL lf)))), ((ma 10), .inl (cJ, 13, .inr (.inl (aL tl)))), ((ma 11), .inl (cJ, 41, .inr (.inl (aL (nzz rw))))), ((ma 12), .inl (cA, 2, .inl (aR rt)))]) hP hD 11 rfl (nzz rw) (fun k h0 h1 => (if_neg (show ¬ k < 0 by omega)).symm) rfl
  refine lv_aload_n hx hb d_Mod_seriesAt_0 rfl (lv_at hl 0 rfl) ?_
  refine va_get (D := (dC, dI)) (ci := 5) (v := .ref ((ma 11))) (C := "OrderTwoCasesModel") (T := F_Mod) (N := 15) hx hb hts la_Mod hown hK hP 0 rfl rfl 13 (by decide) (hts _ k_477) (fun _ h9 => h9) rfl d_Mod_seriesAt_1 ?_
  refine lv_iconst (v := iZ (0)) hx hb d_Mod_seriesAt_4 rfl ?_
  refine lv_lload_n hx hb d_Mod_seriesAt_5 rfl (lv_at hl 1 rfl) ?_
  refine w_rdl (va_runS (As := [.long (lZ (a))]) (rest := [.int (iZ (0)), .ref ((ma 11))]) ⟨hx, hb, hml, hown, hts⟩ (c_modulo l a ha) (va_cwS 1 hts g_Mod_61 rfl rfl rfl (by decide +kernel) ⟨Nat.le_of_ble_eq_true rfl, Nat.le_of_ble_eq_true rfl⟩) preEq rfl rfl hl.1 rfl (lv_room (Nat.le_of_ble_eq_true rfl)) d_Mod_seriesAt_6 ⟨Nat.le_of_ble_eq_true rfl, Nat.le_of_ble_eq_true rfl⟩) ?_
  have hm_6 := md_r a
  refine z_last (wf := [((ma 0), .inr (5, [.int (iZ (cd)), .ref ((ma 1)), .ref ((ma 2)), .ref ((ma 3)), .ref ((ma 4)), .ref ((ma 5)), .int (iZ (td)), .int (iZ (mn)), .ref ((ma 6)), .ref ((ma 7)), .ref ((ma 8)), .ref ((ma 9)), .ref ((ma 10)), .ref ((ma 11)), .ref ((ma 12))])), ((ma 1), .inl (cA, 3, .inl (aR f))), ((ma 2), .inl (cA, 5, .inl (aR g))), ((ma 3), .inl (cJ, 5, .inr (.inl (aL rs)))), ((ma 4), .inl (cJ, 3, .inr (.inl (aL ww)))), ((ma 5), .inl (cJ, 5, .inr (.inl (aL mo)))), ((ma 6), .inl (cA, 2, .inl (aR dg))), ((ma 7), .inl (cJ, 26, .inr (.inl (aL pl)))), ((ma 8), .inl (cJ, 6, .inr (.inl (aL sl)))), ((ma 9), .inl (cJ, 20, .inr (.inl (aL lf)))), ((ma 10), .inl (cJ, 13, .inr (.inl (aL tl)))), ((ma 11), .inl (cJ, 41, .inr (.inl (aL (sT (nzz rw) 0 (md a)))))), ((ma 12), .inl (cA, 2, .inl (aR rt)))]) hx hb hK hP hD hS 11 1 rfl rfl (by omega) (by omega) (by omega) d_Mod_seriesAt_9 rfl (fun H locs hP hD hS => ?_)
  refine lv_aload_n hx hb d_Mod_seriesAt_10 rfl (lv_at hl 0 rfl) ?_
  refine va_get (D := (dC, dI)) (ci := 5) (v := .ref ((ma 11))) (C := "OrderTwoCasesModel") (T := F_Mod) (N := 15) hx hb hts la_Mod hown hK hP 0 rfl rfl 13 (by decide) (hts _ k_477) (fun _ h9 => h9) rfl d_Mod_seriesAt_11 ?_
  refine lv_iconst (v := iZ (1)) hx hb d_Mod_seriesAt_14 rfl ?_
  refine lv_lload_n hx hb d_Mod_seriesAt_15 rfl (lv_at hl 2 rfl) ?_
  refine w_rdl (va_runS (As := [.long (lZ (b))]) (rest := [.int (iZ (1)), .ref ((ma 11))]) ⟨hx, hb, hml, hown, hts⟩ (c_modulo l b hb64) (va_cwS 1 hts g_Mod_61 rfl rfl rfl (by decide +kernel) ⟨Nat.le_of_ble_eq_true rfl, Nat.le_of_ble_eq_true rfl⟩) preEq rfl rfl hl.1 rfl (lv_room (Nat.le_of_ble_eq_true rfl)) d_Mod_seriesAt_16 ⟨Nat.le_of_ble_eq_true rfl, Nat.le_of_ble_eq_true rfl⟩) ?_
  have hm_16 := md_r b
  refine z_last (wf := [((ma 0), .inr (5, [.int (iZ (cd)), .ref ((ma 1)), .ref ((ma 2)), .ref ((ma 3)), .ref ((ma 4)), .ref ((ma 5)), .int (iZ (td)), .int (iZ (mn)), .ref ((ma 6)), .ref ((ma 7)), .ref ((ma 8)), .ref ((ma 9)), .ref ((ma 10)), .ref ((ma 11)), .ref ((ma 12))])), ((ma 1), .inl (cA, 3, .inl (aR f))), ((ma 2), .inl (cA, 5, .inl (aR g))), ((ma 3), .inl (cJ, 5, .inr (.inl (aL rs)))), ((ma 4), .inl (cJ, 3, .inr (.inl (aL ww)))), ((ma 5), .inl (cJ, 5, .inr (.inl (aL mo)))), ((ma 6), .inl (cA, 2, .inl (aR dg))), ((ma 7), .inl (cJ, 26, .inr (.inl (aL pl)))), ((ma 8), .inl (cJ, 6, .inr (.inl (aL sl)))), ((ma 9), .inl (cJ, 20, .inr (.inl (aL lf)))), ((ma 10), .inl (cJ, 13, .inr (.inl (aL tl)))), ((ma 11), .inl (cJ, 41, .inr (.inl (aL (sT (sT (nzz rw) 0 (md a)) 1 (md b)))))), ((ma 12), .inl (cA, 2, .inl (aR rt)))]) hx hb hK hP hD hS 11 1 rfl rfl (by omega) (by omega) (by omega) d_Mod_seriesAt_19 rfl (fun H locs hP hD hS => ?_)
  refine lv_iconst (v := iZ (2)) hx hb d_Mod_seriesAt_20 rfl ?_
  refine lv_istore (lv' := [(6, .int (iZ (2))), (0, .ref ((ma 0))), (1, .long (lZ (a))), (3, .long (lZ (b))), (5, .int (iZ (pw)))]) hx hb d_Mod_seriesAt_21 hl (by decide) rfl (fun ls hl => ?_)
  have loop_23 : ∀ (m_23 : Nat) (n : Int) (y : Int → Int) (hn : 2 ≤ n ∧ (n ≤ pw + 1 ∨ n = 2)) (hneg : ∀ j : Int, j < 0 → y j = 0) (hrow : ∀ j : Int, j < n → 0 ≤ y j ∧ y j < 32003) (hy : ∀ j : Int, j < n → y j = exR f g (n - 2).toNat 0 (sT (sT (fun _ => 0) 0 (md a)) 1 (md b)) j) (hmeas : 42 - n < (m_23 : Int)) (H : Heap) (locs : List Loc) (hP : va_P (dC, dI) vC [((ma 0), .inr (5, [.int (iZ (cd)), .ref ((ma 1)), .ref ((ma 2)), .ref ((ma 3)), .ref ((ma 4)), .ref ((ma 5)), .int (iZ (td)), .int (iZ (mn)), .ref ((ma 6)), .ref ((ma 7)), .ref ((ma 8)), .ref ((ma 9)), .ref ((ma 10)), .ref ((ma 11)), .ref ((ma 12))])), ((ma 1), .inl (cA, 3, .inl (aR f))), ((ma 2), .inl (cA, 5, .inl (aR g))), ((ma 3), .inl (cJ, 5, .inr (.inl (aL rs)))), ((ma 4), .inl (cJ, 3, .inr (.inl (aL ww)))), ((ma 5), .inl (cJ, 5, .inr (.inl (aL mo)))), ((ma 6), .inl (cA, 2, .inl (aR dg))), ((ma 7), .inl (cJ, 26, .inr (.inl (aL pl)))), ((ma 8), .inl (cJ, 6, .inr (.inl (aL sl)))), ((ma 9), .inl (cJ, 20, .inr (.inl (aL lf)))), ((ma 10), .inl (cJ, 13, .inr (.inl (aL tl)))), ((ma 11), .inl (cJ, 41, .inr (.inl (aL y)))), ((ma 12), .inl (cA, 2, .inl (aR rt)))] H) (hD : va_D A [((ma 0), .inr (5, [.int (iZ (cd)), .ref ((ma 1)), .ref ((ma 2)), .ref ((ma 3)), .ref ((ma 4)), .ref ((ma 5)), .int (iZ (td)), .int (iZ (mn)), .ref ((ma 6)), .ref ((ma 7)), .ref ((ma 8)), .ref ((ma 9)), .ref ((ma 10)), .ref ((ma 11)), .ref ((ma 12))])), ((ma 1), .inl (cA, 3, .inl (aR f))), ((ma 2), .inl (cA, 5, .inl (aR g))), ((ma 3), .inl (cJ, 5, .inr (.inl (aL rs)))), ((ma 4), .inl (cJ, 3, .inr (.inl (aL ww)))), ((ma 5), .inl (cJ, 5, .inr (.inl (aL mo)))), ((ma 6), .inl (cA, 2, .inl (aR dg))), ((ma 7), .inl (cJ, 26, .inr (.inl (aL pl)))), ((ma 8), .inl (cJ, 6, .inr (.inl (aL sl)))), ((ma 9), .inl (cJ, 20, .inr (.inl (aL lf)))), ((ma 10), .inl (cJ, 13, .inr (.inl (aL tl)))), ((ma 11), .inl (cJ, 41, .inr (.inl (aL y)))), ((ma 12), .inl (cA, 2, .inl (aR rt)))]) (hS : va_S A s.heap H locs) (ls : Array Slot) (hl : lv_has ls 10 [(6, .int (iZ (n))), (0, .ref ((ma 0))), (1, .long (lZ (a))), (3, .long (lZ (b))), (5, .int (iZ (pw)))]), W p l e ({ frames := 1, cells := 0, slots := 0, locals := 26 } : Room) s m ([.ref ((ma 0)), .long (lZ (a)), .long (lZ (b)), .int (iZ (pw))] : List Value).toArray below meth c H locs 0 0 (MQ below (va_Qi (fun (r9 : Int32) (u : MS) => r9 = iZ (srz f g (md a) (md b) pw) ∧ cd = u.2.2.2.2.2.2.2.2.2.2.1) (fun (u : MS) t => wB (dC, dI) vC A (mW cA cJ ma f g u) t) A) ([.ref ((ma 0)), .long (lZ (a)), .long (lZ (b)), .int (iZ (pw))] : List Value).toArray s 0 0 A) (F0 m 23 ls []) := by
    intro m_23
    induction m_23 with
    | zero =>
      intro n y hn hneg hrow hy hmeas
      exfalso; omega
    | succ m_23 ih_23 =>
      intro n y hn hneg hrow hy hmeas H locs hP hD hS ls hl
      refine lv_iload hx hb d_Mod_seriesAt_23 (lv_at hl 0 rfl) ?_
      refine lv_iload hx hb d_Mod_seriesAt_25 (lv_at hl 4 rfl) ?_
      refine z_icmp_gt (tgt := 192) hx hb d_Mod_seriesAt_27 (by decide) (by omega) (by omega) (fun c_27 => ?_) (fun c_27 => ?_)
      · refine lv_aload_n hx hb d_Mod_seriesAt_192 rfl (lv_at hl 1 rfl) ?_
        refine va_get (D := (dC, dI)) (ci := 5) (v := .ref ((ma 11))) (C := "OrderTwoCasesModel") (T := F_Mod) (N := 15) hx hb hts la_Mod hown hK hP 0 rfl rfl 13 (by decide) (hts _ k_477) (fun _ h9 => h9) rfl d_Mod_seriesAt_193 ?_
        refine lv_iload hx hb d_Mod_seriesAt_196 (lv_at hl 4 rfl) ?_
        refine z_lald hx hb hK hP 11 1 rfl rfl (by omega) (by omega) (by omega) d_Mod_seriesAt_198 ?_
        refine z_l2i hx hb d_Mod_seriesAt_199 ?_
        have hy9 : y pw = srz f g (md a) (md b) pw := by
          rw [hy pw (by omega), show (n - 2).toNat = (pw - 1).toNat by omega]
          rfl
        exact w_iret (post := fun (r9 : Int32) (u : MS) => r9 = iZ (srz f g (md a) (md b) pw) ∧ cd = u.2.2.2.2.2.2.2.2.2.2.1) (wn := fun (u : MS) => mW cA cJ ma f g u) hx hb hr hlocks (rs, ww, mo, dg, pl, sl, lf, tl, y, rt, cd, td, mn) ⟨congrArg iZ hy9, rfl⟩ hP hD hS d_Mod_seriesAt_200
      · refine lv_lconst (v := lZ (0)) hx hb d_Mod_seriesAt_30 (by decide +kernel) ?_
        refine lv_lstore (lv' := [(7, .long (lZ (0))), (6, .int (iZ (n))), (0, .ref ((ma 0))), (1, .long (lZ (a))), (3, .long (lZ (b))), (5, .int (iZ (pw)))]) hx hb d_Mod_seriesAt_31 hl (by decide) rfl (fun ls hl => ?_)
        refine lv_iconst (v := iZ (0)) hx hb d_Mod_seriesAt_33 rfl ?_
        refine lv_istore (lv' := [(9, .int (iZ (0))), (7, .long (lZ (0))), (6, .int (iZ (n))), (0, .ref ((ma 0))), (1, .long (lZ (a))), (3, .long (lZ (b))), (5, .int (iZ (pw)))]) hx hb d_Mod_seriesAt_34 hl (by decide) rfl (fun ls hl => ?_)
        have loop_36 : ∀ (m_36 : Nat) (i : Int) (sum : Int) (hi : 0 ≤ i ∧ i ≤ 3) (hs9 : 0 ≤ sum ∧ sum < 32003) (hsum : sum = md (suM (fun t => f t * slz y (n - 2 - t)) i.toNat)) (hmeas : 3 - i < (m_36 : Int)) (H : Heap) (locs : List Loc) (hP : va_P (dC, dI) vC [((ma 0), .inr (5, [.int (iZ (cd)), .ref ((ma 1)), .ref ((ma 2)), .ref ((ma 3)), .ref ((ma 4)), .ref ((ma 5)), .int (iZ (td)), .int (iZ (mn)), .ref ((ma 6)), .ref ((ma 7)), .ref ((ma 8)), .ref ((ma 9)), .ref ((ma 10)), .ref ((ma 11)), .ref ((ma 12))])), ((ma 1), .inl (cA, 3, .inl (aR f))), ((ma 2), .inl (cA, 5, .inl (aR g))), ((ma 3), .inl (cJ, 5, .inr (.inl (aL rs)))), ((ma 4), .inl (cJ, 3, .inr (.inl (aL ww)))), ((ma 5), .inl (cJ, 5, .inr (.inl (aL mo)))), ((ma 6), .inl (cA, 2, .inl (aR dg))), ((ma 7), .inl (cJ, 26, .inr (.inl (aL pl)))), ((ma 8), .inl (cJ, 6, .inr (.inl (aL sl)))), ((ma 9), .inl (cJ, 20, .inr (.inl (aL lf)))), ((ma 10), .inl (cJ, 13, .inr (.inl (aL tl)))), ((ma 11), .inl (cJ, 41, .inr (.inl (aL y)))), ((ma 12), .inl (cA, 2, .inl (aR rt)))] H) (hD : va_D A [((ma 0), .inr (5, [.int (iZ (cd)), .ref ((ma 1)), .ref ((ma 2)), .ref ((ma 3)), .ref ((ma 4)), .ref ((ma 5)), .int (iZ (td)), .int (iZ (mn)), .ref ((ma 6)), .ref ((ma 7)), .ref ((ma 8)), .ref ((ma 9)), .ref ((ma 10)), .ref ((ma 11)), .ref ((ma 12))])), ((ma 1), .inl (cA, 3, .inl (aR f))), ((ma 2), .inl (cA, 5, .inl (aR g))), ((ma 3), .inl (cJ, 5, .inr (.inl (aL rs)))), ((ma 4), .inl (cJ, 3, .inr (.inl (aL ww)))), ((ma 5), .inl (cJ, 5, .inr (.inl (aL mo)))), ((ma 6), .inl (cA, 2, .inl (aR dg))), ((ma 7), .inl (cJ, 26, .inr (.inl (aL pl)))), ((ma 8), .inl (cJ, 6, .inr (.inl (aL sl)))), ((ma 9), .inl (cJ, 20, .inr (.inl (aL lf)))), ((ma 10), .inl (cJ, 13, .inr (.inl (aL tl)))), ((ma 11), .inl (cJ, 41, .inr (.inl (aL y)))), ((ma 12), .inl (cA, 2, .inl (aR rt)))]) (hS : va_S A s.heap H locs) (ls : Array Slot) (hl : lv_has ls 10 [(9, .int (iZ (i))), (7, .long (lZ (sum))), (6, .int (iZ (n))), (0, .ref ((ma 0))), (1, .long (lZ (a))), (3, .long (lZ (b))), (5, .int (iZ (pw)))]), W p l e ({ frames := 1, cells := 0, slots := 0, locals := 26 } : Room) s m ([.ref ((ma 0)), .long (lZ (a)), .long (lZ (b)), .int (iZ (pw))] : List Value).toArray below meth c H locs 0 0 (MQ below (va_Qi (fun (r9 : Int32) (u : MS) => r9 = iZ (srz f g (md a) (md b) pw) ∧ cd = u.2.2.2.2.2.2.2.2.2.2.1) (fun (u : MS) t => wB (dC, dI) vC A (mW cA cJ ma f g u) t) A) ([.ref ((ma 0)), .long (lZ (a)), .long (lZ (b)), .int (iZ (pw))] : List Value).toArray s 0 0 A) (F0 m 36 ls []) := by
          intro m_36
          induction m_36 with
          | zero =>
            intro i sum hi hs9 hsum hmeas
            exfalso; omega
          | succ m_36 ih_36 =>
            intro i sum hi hs9 hsum hmeas H locs hP hD hS ls hl
            refine lv_iload hx hb d_Mod_seriesAt_36 (lv_at hl 0 rfl) ?_
            refine lv_iconst (v := iZ (3)) hx hb d_Mod_seriesAt_38 rfl ?_
            refine z_icmp_ge (tgt := 101) hx hb d_Mod_seriesAt_39 (by decide) (by omega) (by omega) (fun c_39 => ?_) (fun c_39 => ?_)
            · refine lv_iconst (v := iZ (0)) hx hb d_Mod_seriesAt_101 rfl ?_
              refine lv_istore (lv' := [(9, .int (iZ (0))), (7, .long (lZ (sum))), (6, .int (iZ (n))), (0, .ref ((ma 0))), (1, .long (lZ (a))), (3, .long (lZ (b))), (5, .int (iZ (pw)))]) hx hb d_Mod_seriesAt_102 hl (by decide) rfl (fun ls hl => ?_)
              have loop_104 : ∀ (m_104 : Nat) (i : Int) (sum : Int) (hi : 0 ≤ i ∧ i ≤ 5) (hs9 : 0 ≤ sum ∧ sum < 32003) (hsum : sum = md (suM (fun t => f t * slz y (n - 2 - t)) 3 + suM (fun t => g t * y (n - 2 - t)) i.toNat)) (hmeas : 5 - i < (m_104 : Int)) (H : Heap) (locs : List Loc) (hP : va_P (dC, dI) vC [((ma 0), .inr (5, [.int (iZ (cd)), .ref ((ma 1)), .ref ((ma 2)), .ref ((ma 3)), .ref ((ma 4)), .ref ((ma 5)), .int (iZ (td)), .int (iZ (mn)), .ref ((ma 6)), .ref ((ma 7)), .ref ((ma 8)), .ref ((ma 9)), .ref ((ma 10)), .ref ((ma 11)), .ref ((ma 12))])), ((ma 1), .inl (cA, 3, .inl (aR f))), ((ma 2), .inl (cA, 5, .inl (aR g))), ((ma 3), .inl (cJ, 5, .inr (.inl (aL rs)))), ((ma 4), .inl (cJ, 3, .inr (.inl (aL ww)))), ((ma 5), .inl (cJ, 5, .inr (.inl (aL mo)))), ((ma 6), .inl (cA, 2, .inl (aR dg))), ((ma 7), .inl (cJ, 26, .inr (.inl (aL pl)))), ((ma 8), .inl (cJ, 6, .inr (.inl (aL sl)))), ((ma 9), .inl (cJ, 20, .inr (.inl (aL lf)))), ((ma 10), .inl (cJ, 13, .inr (.inl (aL tl)))), ((ma 11), .inl (cJ, 41, .inr (.inl (aL y)))), ((ma 12), .inl (cA, 2, .inl (aR rt)))] H) (hD : va_D A [((ma 0), .inr (5, [.int (iZ (cd)), .ref ((ma 1)), .ref ((ma 2)), .ref ((ma 3)), .ref ((ma 4)), .ref ((ma 5)), .int (iZ (td)), .int (iZ (mn)), .ref ((ma 6)), .ref ((ma 7)), .ref ((ma 8)), .ref ((ma 9)), .ref ((ma 10)), .ref ((ma 11)), .ref ((ma 12))])), ((ma 1), .inl (cA, 3, .inl (aR f))), ((ma 2), .inl (cA, 5, .inl (aR g))), ((ma 3), .inl (cJ, 5, .inr (.inl (aL rs)))), ((ma 4), .inl (cJ, 3, .inr (.inl (aL ww)))), ((ma 5), .inl (cJ, 5, .inr (.inl (aL mo)))), ((ma 6), .inl (cA, 2, .inl (aR dg))), ((ma 7), .inl (cJ, 26, .inr (.inl (aL pl)))), ((ma 8), .inl (cJ, 6, .inr (.inl (aL sl)))), ((ma 9), .inl (cJ, 20, .inr (.inl (aL lf)))), ((ma 10), .inl (cJ, 13, .inr (.inl (aL tl)))), ((ma 11), .inl (cJ, 41, .inr (.inl (aL y)))), ((ma 12), .inl (cA, 2, .inl (aR rt)))]) (hS : va_S A s.heap H locs) (ls : Array Slot) (hl : lv_has ls 10 [(9, .int (iZ (i))), (7, .long (lZ (sum))), (6, .int (iZ (n))), (0, .ref ((ma 0))), (1, .long (lZ (a))), (3, .long (lZ (b))), (5, .int (iZ (pw)))]), W p l e ({ frames := 1, cells := 0, slots := 0, locals := 26 } : Room) s m ([.ref ((ma 0)), .long (lZ (a)), .long (lZ (b)), .int (iZ (pw))] : List Value).toArray below meth c H locs 0 0 (MQ below (va_Qi (fun (r9 : Int32) (u : MS) => r9 = iZ (srz f g (md a) (md b) pw) ∧ cd = u.2.2.2.2.2.2.2.2.2.2.1) (fun (u : MS) t => wB (dC, dI) vC A (mW cA cJ ma f g u) t) A) ([.ref ((ma 0)), .long (lZ (a)), .long (lZ (b)), .int (iZ (pw))] : List Value).toArray s 0 0 A) (F0 m 104 ls []) := by
                intro m_104
                induction m_104 with
                | zero =>
                  intro i sum hi hs9 hsum hmeas
                  exfalso; omega
                | succ m_104 ih_104 =>
                  intro i sum hi hs9 hsum hmeas H locs hP hD hS ls hl
                  refine lv_iload hx hb d_Mod_seriesAt_104 (lv_at hl 0 rfl) ?_
                  refine lv_iconst (v := iZ (5)) hx hb d_Mod_seriesAt_106 rfl ?_
                  refine z_icmp_ge (tgt := 156) hx hb d_Mod_seriesAt_107 (by decide) (by omega) (by omega) (fun c_107 => ?_) (fun c_107 => ?_)
                  · refine lv_aload_n hx hb d_Mod_seriesAt_156 rfl (lv_at hl 3 rfl) ?_
                    refine va_get (D := (dC, dI)) (ci := 5) (v := .ref ((ma 11))) (C := "OrderTwoCasesModel") (T := F_Mod) (N := 15) hx hb hts la_Mod hown hK hP 0 rfl rfl 13 (by decide) (hts _ k_477) (fun _ h9 => h9) rfl d_Mod_seriesAt_157 ?_
                    refine lv_iload hx hb d_Mod_seriesAt_160 (lv_at hl 2 rfl) ?_
                    refine lv_lload hx hb d_Mod_seriesAt_162 (lv_at hl 1 rfl) ?_
                    refine z_lneg hx hb d_Mod_seriesAt_164 ?_
                    refine w_rdl (va_runS (As := [.long (lZ (-sum))]) (rest := [.int (iZ (n)), .ref ((ma 11))]) ⟨hx, hb, hml, hown, hts⟩ (c_modulo l (-sum) (by omega)) (va_cwS 1 hts g_Mod_61 rfl rfl rfl (by decide +kernel) ⟨Nat.le_of_ble_eq_true rfl, Nat.le_of_ble_eq_true rfl⟩) preEq rfl rfl hl.1 rfl (lv_room (Nat.le_of_ble_eq_true rfl)) d_Mod_seriesAt_165 ⟨Nat.le_of_ble_eq_true rfl, Nat.le_of_ble_eq_true rfl⟩) ?_
                    have hm_165 := md_r (-sum)
                    refine lv_iload hx hb d_Mod_seriesAt_168 (lv_at hl 2 rfl) ?_
                    refine z_i2l hx hb d_Mod_seriesAt_170 (by omega) ?_
                    refine lv_iload hx hb d_Mod_seriesAt_171 (lv_at hl 2 rfl) ?_
                    refine lv_iconst (v := iZ (1)) hx hb d_Mod_seriesAt_173 rfl ?_
                    refine z_isub hx hb d_Mod_seriesAt_174 ?_
                    refine z_i2l hx hb d_Mod_seriesAt_175 (by omega) ?_
                    refine z_lmul hx hb d_Mod_seriesAt_176 ?_
                    refine w_rdl (va_runS (As := [.long (lZ (n * (n - 1)))]) (rest := [.long (lZ (md (-sum))), .int (iZ (n)), .ref ((ma 11))]) ⟨hx, hb, hml, hown, hts⟩ (c_minverse l (n * (n - 1)) (by have := nn1_r (n := n) (by omega); omega)) (va_cwS 1 hts g_Mod_68 rfl rfl rfl (by decide +kernel) ⟨Nat.le_of_ble_eq_true rfl, Nat.le_of_ble_eq_true rfl⟩) preEq rfl rfl hl.1 rfl (lv_room (Nat.le_of_ble_eq_true rfl)) d_Mod_seriesAt_177 ⟨Nat.le_of_ble_eq_true rfl, Nat.le_of_ble_eq_true rfl⟩) ?_
                    have hi_177 := ivz_r (n * (n - 1))
                    refine z_lmul hx hb d_Mod_seriesAt_180 ?_
                    refine lv_ldc2 (v := lZ (32003)) hx hb hown (show (Jvm.Cond.constantLong "OrderTwoCasesModel" 51 (lZ (32003))).before _ s = true from hts _ k_527) d_Mod_seriesAt_181 ?_
                    refine z_lremmd hx hb d_Mod_seriesAt_184 (by have := mul_bd (md_r (-sum)) (ivz_r (n * (n - 1))); omega) ?_
                    refine z_last (wf := [((ma 0), .inr (5, [.int (iZ (cd)), .ref ((ma 1)), .ref ((ma 2)), .ref ((ma 3)), .ref ((ma 4)), .ref ((ma 5)), .int (iZ (td)), .int (iZ (mn)), .ref ((ma 6)), .ref ((ma 7)), .ref ((ma 8)), .ref ((ma 9)), .ref ((ma 10)), .ref ((ma 11)), .ref ((ma 12))])), ((ma 1), .inl (cA, 3, .inl (aR f))), ((ma 2), .inl (cA, 5, .inl (aR g))), ((ma 3), .inl (cJ, 5, .inr (.inl (aL rs)))), ((ma 4), .inl (cJ, 3, .inr (.inl (aL ww)))), ((ma 5), .inl (cJ, 5, .inr (.inl (aL mo)))), ((ma 6), .inl (cA, 2, .inl (aR dg))), ((ma 7), .inl (cJ, 26, .inr (.inl (aL pl)))), ((ma 8), .inl (cJ, 6, .inr (.inl (aL sl)))), ((ma 9), .inl (cJ, 20, .inr (.inl (aL lf)))), ((ma 10), .inl (cJ, 13, .inr (.inl (aL tl)))), ((ma 11), .inl (cJ, 41, .inr (.inl (aL (sT y n (md ((md (-sum)) * (ivz (n * (n - 1)))))))))), ((ma 12), .inl (cA, 2, .inl (aR rt)))]) hx hb hK hP hD hS 11 1 rfl rfl (by omega) (by omega) (by omega) d_Mod_seriesAt_185 rfl (fun H locs hP hD hS => ?_)
                    have hs8 : sum = lwz f g y (n - 2) := by rw [hsum, show i.toNat = 5 by omega]; rfl
                    rw [hs8] at hP hD
                    have hP : va_P (dC, dI) vC [((ma 0), .inr (5, [.int (iZ (cd)), .ref ((ma 1)), .ref ((ma 2)), .ref ((ma 3)), .ref ((ma 4)), .ref ((ma 5)), .int (iZ (td)), .int (iZ (mn)), .ref ((ma 6)), .ref ((ma 7)), .ref ((ma 8)), .ref ((ma 9)), .ref ((ma 10)), .ref ((ma 11)), .ref ((ma 12))])), ((ma 1), .inl (cA, 3, .inl (aR f))), ((ma 2), .inl (cA, 5, .inl (aR g))), ((ma 3), .inl (cJ, 5, .inr (.inl (aL rs)))), ((ma 4), .inl (cJ, 3, .inr (.inl (aL ww)))), ((ma 5), .inl (cJ, 5, .inr (.inl (aL mo)))), ((ma 6), .inl (cA, 2, .inl (aR dg))), ((ma 7), .inl (cJ, 26, .inr (.inl (aL pl)))), ((ma 8), .inl (cJ, 6, .inr (.inl (aL sl)))), ((ma 9), .inl (cJ, 20, .inr (.inl (aL lf)))), ((ma 10), .inl (cJ, 13, .inr (.inl (aL tl)))), ((ma 11), .inl (cJ, 41, .inr (.inl (aL (sT y n (md (md (-(lwz f g y (n - 2))) * ivz (n * (n - 1))))))))), ((ma 12), .inl (cA, 2, .inl (aR rt)))] H := hP
                    have hD : va_D A [((ma 0), .inr (5, [.int (iZ (cd)), .ref ((ma 1)), .ref ((ma 2)), .ref ((ma 3)), .ref ((ma 4)), .ref ((ma 5)), .int (iZ (td)), .int (iZ (mn)), .ref ((ma 6)), .ref ((ma 7)), .ref ((ma 8)), .ref ((ma 9)), .ref ((ma 10)), .ref ((ma 11)), .ref ((ma 12))])), ((ma 1), .inl (cA, 3, .inl (aR f))), ((ma 2), .inl (cA, 5, .inl (aR g))), ((ma 3), .inl (cJ, 5, .inr (.inl (aL rs)))), ((ma 4), .inl (cJ, 3, .inr (.inl (aL ww)))), ((ma 5), .inl (cJ, 5, .inr (.inl (aL mo)))), ((ma 6), .inl (cA, 2, .inl (aR dg))), ((ma 7), .inl (cJ, 26, .inr (.inl (aL pl)))), ((ma 8), .inl (cJ, 6, .inr (.inl (aL sl)))), ((ma 9), .inl (cJ, 20, .inr (.inl (aL lf)))), ((ma 10), .inl (cJ, 13, .inr (.inl (aL tl)))), ((ma 11), .inl (cJ, 41, .inr (.inl (aL (sT y n (md (md (-(lwz f g y (n - 2))) * ivz (n * (n - 1))))))))), ((ma 12), .inl (cA, 2, .inl (aR rt)))] := hD
                    refine z_iinc (lv' := [(6, .int (iZ (n + 1))), (9, .int (iZ (i))), (7, .long (lZ (sum))), (0, .ref ((ma 0))), (1, .long (lZ (a))), (3, .long (lZ (b))), (5, .int (iZ (pw)))]) hx hb d_Mod_seriesAt_186 hl (k := 2) rfl (by decide) rfl (fun ls hl => ?_)
                    refine lv_goto (tgt := 23) hx hb d_Mod_seriesAt_189 (by decide) ?_
                    exact ih_23 (n + 1) (sT y n (md (md (-(lwz f g y (n - 2))) * ivz (n * (n - 1))))) (by omega) (ser_n0 (by omega) hneg) (ser_rs (md_r _) hrow) (ser_step hn.1 hy) (by omega) _ _ hP hD hS ls (lv_sub hl [0, 3, 4, 5, 6] rfl)
                  · refine lv_iload hx hb d_Mod_seriesAt_110 (lv_at hl 2 rfl) ?_
                    refine lv_iconst (v := iZ (2)) hx hb d_Mod_seriesAt_112 rfl ?_
                    refine z_isub hx hb d_Mod_seriesAt_113 ?_
                    refine lv_iload hx hb d_Mod_seriesAt_114 (lv_at hl 0 rfl) ?_
                    refine z_isub hx hb d_Mod_seriesAt_116 ?_
                    refine z_if_lt (tgt := 150) hx hb d_Mod_seriesAt_117 (by decide) (by omega) (fun c_117 => ?_) (fun c_117 => ?_)
                    · refine z_iinc (lv' := [(9, .int (iZ (i + 1))), (7, .long (lZ (sum))), (6, .int (iZ (n))), (0, .ref ((ma 0))), (1, .long (lZ (a))), (3, .long (lZ (b))), (5, .int (iZ (pw)))]) hx hb d_Mod_seriesAt_150 hl (k := 0) rfl (by decide) rfl (fun ls hl => ?_)
                      refine lv_goto (tgt := 104) hx hb d_Mod_seriesAt_153 (by decide) ?_
                      exact ih_104 (i + 1) sum (by omega) hs9 (sumc_out (h := (fun t => g t * y (n - 2 - t))) (by omega) hsum (by show g i * y (n - 2 - i) = 0; rw [hneg (n - 2 - i) (by omega), Int.mul_zero])) (by omega) _ _ hP hD hS ls (lv_sub hl [0, 1, 2, 3, 4, 5, 6] rfl)
                    · have hq4 := mul_bd (hg.r i) (hrow (n - 2 - i) (by omega))
                      have hq5 := hg.r i
                      refine lv_lload hx hb d_Mod_seriesAt_120 (lv_at hl 1 rfl) ?_
                      refine lv_aload_n hx hb d_Mod_seriesAt_122 rfl (lv_at hl 3 rfl) ?_
                      refine va_get (D := (dC, dI)) (ci := 5) (v := .ref ((ma 2))) (C := "OrderTwoCasesModel") (T := F_Mod) (N := 15) hx hb hts la_Mod hown hK hP 0 rfl rfl 2 (by decide) (hts _ k_466) (fun _ h9 => h9) rfl d_Mod_seriesAt_123 ?_
                      refine lv_iload hx hb d_Mod_seriesAt_126 (lv_at hl 0 rfl) ?_
                      refine z_iald hx hb hK hP 2 0 rfl rfl (by omega) (by omega) (by omega) d_Mod_seriesAt_128 ?_
                      refine z_i2l hx hb d_Mod_seriesAt_129 (by omega) ?_
                      refine lv_aload_n hx hb d_Mod_seriesAt_130 rfl (lv_at hl 3 rfl) ?_
                      refine va_get (D := (dC, dI)) (ci := 5) (v := .ref ((ma 11))) (C := "OrderTwoCasesModel") (T := F_Mod) (N := 15) hx hb hts la_Mod hown hK hP 0 rfl rfl 13 (by decide) (hts _ k_477) (fun _ h9 => h9) rfl d_Mod_seriesAt_131 ?_
                      refine lv_iload hx hb d_Mod_seriesAt_134 (lv_at hl 2 rfl) ?_
                      refine lv_iconst (v := iZ (2)) hx hb d_Mod_seriesAt_136 rfl ?_
                      refine z_isub hx hb d_Mod_seriesAt_137 ?_
                      refine lv_iload hx hb d_Mod_seriesAt_138 (lv_at hl 0 rfl) ?_
                      refine z_isub hx hb d_Mod_seriesAt_140 ?_
                      refine z_lald hx hb hK hP 11 1 rfl rfl (by omega) (by omega) (by omega) d_Mod_seriesAt_141 ?_
                      refine z_lmul hx hb d_Mod_seriesAt_142 ?_
                      refine z_ladd hx hb d_Mod_seriesAt_143 ?_
                      refine lv_ldc2 (v := lZ (32003)) hx hb hown (show (Jvm.Cond.constantLong "OrderTwoCasesModel" 51 (lZ (32003))).before _ s = true from hts _ k_527) d_Mod_seriesAt_144 ?_
                      refine z_lremmd hx hb d_Mod_seriesAt_147 (by omega) ?_
                      refine lv_lstore (lv' := [(7, .long (lZ (md (sum + ((g i) * (y ((n - 2) - i))))))), (9, .int (iZ (i))), (6, .int (iZ (n))), (0, .ref ((ma 0))), (1, .long (lZ (a))), (3, .long (lZ (b))), (5, .int (iZ (pw)))]) hx hb d_Mod_seriesAt_148 hl (by decide) rfl (fun ls hl => ?_)
                      refine z_iinc (lv' := [(9, .int (iZ (i + 1))), (7, .long (lZ (md (sum + ((g i) * (y ((n - 2) - i))))))), (6, .int (iZ (n))), (0, .ref ((ma 0))), (1, .long (lZ (a))), (3, .long (lZ (b))), (5, .int (iZ (pw)))]) hx hb d_Mod_seriesAt_150 hl (k := 1) rfl (by decide) rfl (fun ls hl => ?_)
                      refine lv_goto (tgt := 104) hx hb d_Mod_seriesAt_153 (by decide) ?_
                      exact ih_104 (i + 1) (md (sum + ((g i) * (y ((n - 2) - i))))) (by omega) (md_r _) (sumc_in (h := (fun t => g t * y (n - 2 - t))) (by omega) hsum) (by omega) _ _ hP hD hS ls (lv_sub hl [0, 1, 2, 3, 4, 5, 6] rfl)
              exact loop_104 6 0 sum (by omega) hs9 (by rw [hsum, show i.toNat = 3 by omega]; exact congrArg md (Int.add_zero _).symm) (by omega) _ _ hP hD hS ls (lv_sub hl [0, 1, 2, 3, 4, 5, 6] rfl)
            · refine lv_iload hx hb d_Mod_seriesAt_42 (lv_at hl 2 rfl) ?_
              refine lv_iconst (v := iZ (1)) hx hb d_Mod_seriesAt_44 rfl ?_
              refine z_isub hx hb d_Mod_seriesAt_45 ?_
              refine lv_iload hx hb d_Mod_seriesAt_46 (lv_at hl 0 rfl) ?_
              refine z_isub hx hb d_Mod_seriesAt_48 ?_
              refine z_if_le (tgt := 95) hx hb d_Mod_seriesAt_49 (by decide) (by omega) (fun c_49 => ?_) (fun c_49 => ?_)
              · refine z_iinc (lv' := [(9, .int (iZ (i + 1))), (7, .long (lZ (sum))), (6, .int (iZ (n))), (0, .ref ((ma 0))), (1, .long (lZ (a))), (3, .long (lZ (b))), (5, .int (iZ (pw)))]) hx hb d_Mod_seriesAt_95 hl (k := 0) rfl (by decide) rfl (fun ls hl => ?_)
                refine lv_goto (tgt := 36) hx hb d_Mod_seriesAt_98 (by decide) ?_
                exact ih_36 (i + 1) sum (by omega) hs9 (sum_out (h := (fun t => f t * slz y (n - 2 - t))) (by omega) hsum (ser_o1 hneg (by omega))) (by omega) _ _ hP hD hS ls (lv_sub hl [0, 1, 2, 3, 4, 5, 6] rfl)
              · have hq1 := mul_bdc 41 (hf.r i) (show 0 ≤ n - 1 - i ∧ n - 1 - i ≤ 41 by omega)
                have hq2 := mul_bd (md_r (f i * (n - 1 - i))) (hrow (n - 1 - i) (by omega))
                have hq3 := hf.r i
                refine lv_lload hx hb d_Mod_seriesAt_52 (lv_at hl 1 rfl) ?_
                refine lv_aload_n hx hb d_Mod_seriesAt_54 rfl (lv_at hl 3 rfl) ?_
                refine va_get (D := (dC, dI)) (ci := 5) (v := .ref ((ma 1))) (C := "OrderTwoCasesModel") (T := F_Mod) (N := 15) hx hb hts la_Mod hown hK hP 0 rfl rfl 1 (by decide) (hts _ k_465) (fun _ h9 => h9) rfl d_Mod_seriesAt_55 ?_
                refine lv_iload hx hb d_Mod_seriesAt_58 (lv_at hl 0 rfl) ?_
                refine z_iald hx hb hK hP 1 0 rfl rfl (by omega) (by omega) (by omega) d_Mod_seriesAt_60 ?_
                refine z_i2l hx hb d_Mod_seriesAt_61 (by omega) ?_
                refine lv_iload hx hb d_Mod_seriesAt_62 (lv_at hl 2 rfl) ?_
                refine lv_iconst (v := iZ (1)) hx hb d_Mod_seriesAt_64 rfl ?_
                refine z_isub hx hb d_Mod_seriesAt_65 ?_
                refine lv_iload hx hb d_Mod_seriesAt_66 (lv_at hl 0 rfl) ?_
                refine z_isub hx hb d_Mod_seriesAt_68 ?_
                refine z_i2l hx hb d_Mod_seriesAt_69 (by omega) ?_
                refine z_lmul hx hb d_Mod_seriesAt_70 ?_
                refine lv_ldc2 (v := lZ (32003)) hx hb hown (show (Jvm.Cond.constantLong "OrderTwoCasesModel" 51 (lZ (32003))).before _ s = true from hts _ k_527) d_Mod_seriesAt_71 ?_
                refine z_lremmd hx hb d_Mod_seriesAt_74 (by omega) ?_
                refine lv_aload_n hx hb d_Mod_seriesAt_75 rfl (lv_at hl 3 rfl) ?_
                refine va_get (D := (dC, dI)) (ci := 5) (v := .ref ((ma 11))) (C := "OrderTwoCasesModel") (T := F_Mod) (N := 15) hx hb hts la_Mod hown hK hP 0 rfl rfl 13 (by decide) (hts _ k_477) (fun _ h9 => h9) rfl d_Mod_seriesAt_76 ?_
                refine lv_iload hx hb d_Mod_seriesAt_79 (lv_at hl 2 rfl) ?_
                refine lv_iconst (v := iZ (1)) hx hb d_Mod_seriesAt_81 rfl ?_
                refine z_isub hx hb d_Mod_seriesAt_82 ?_
                refine lv_iload hx hb d_Mod_seriesAt_83 (lv_at hl 0 rfl) ?_
                refine z_isub hx hb d_Mod_seriesAt_85 ?_
                refine z_lald hx hb hK hP 11 1 rfl rfl (by omega) (by omega) (by omega) d_Mod_seriesAt_86 ?_
                refine z_lmul hx hb d_Mod_seriesAt_87 ?_
                refine z_ladd hx hb d_Mod_seriesAt_88 ?_
                refine lv_ldc2 (v := lZ (32003)) hx hb hown (show (Jvm.Cond.constantLong "OrderTwoCasesModel" 51 (lZ (32003))).before _ s = true from hts _ k_527) d_Mod_seriesAt_89 ?_
                refine z_lremmd hx hb d_Mod_seriesAt_92 (by omega) ?_
                refine lv_lstore (lv' := [(7, .long (lZ (md (sum + ((md ((f i) * ((n - 1) - i))) * (y ((n - 1) - i))))))), (9, .int (iZ (i))), (6, .int (iZ (n))), (0, .ref ((ma 0))), (1, .long (lZ (a))), (3, .long (lZ (b))), (5, .int (iZ (pw)))]) hx hb d_Mod_seriesAt_93 hl (by decide) rfl (fun ls hl => ?_)
                refine z_iinc (lv' := [(9, .int (iZ (i + 1))), (7, .long (lZ (md (sum + ((md ((f i) * ((n - 1) - i))) * (y ((n - 1) - i))))))), (6, .int (iZ (n))), (0, .ref ((ma 0))), (1, .long (lZ (a))), (3, .long (lZ (b))), (5, .int (iZ (pw)))]) hx hb d_Mod_seriesAt_95 hl (k := 1) rfl (by decide) rfl (fun ls hl => ?_)
                refine lv_goto (tgt := 36) hx hb d_Mod_seriesAt_98 (by decide) ?_
                exact ih_36 (i + 1) (md (sum + ((md ((f i) * ((n - 1) - i))) * (y ((n - 1) - i))))) (by omega) (md_r _) (by rw [ser_t1]; exact sum_in (h := (fun t => f t * slz y (n - 2 - t))) (by omega) hsum) (by omega) _ _ hP hD hS ls (lv_sub hl [0, 1, 2, 3, 4, 5, 6] rfl)
        exact loop_36 4 0 0 (by omega) (by omega) rfl (by omega) _ _ hP hD hS ls (lv_sub hl [0, 1, 2, 3, 4, 5, 6] rfl)
  exact loop_23 43 2 (sT (sT (nzz rw) 0 (md a)) 1 (md b)) (by omega) (ser_n0 (by decide) (ser_n0 (by decide) (fun j hj => if_pos hj))) (ser_r0 _ _ _) (ser_0 _ _ _) (by omega) _ _ hP hD hS ls (lv_sub hl [0, 1, 2, 3, 4] rfl)

set_option maxHeartbeats 4000000 in
set_option maxRecDepth 100000 in
/-- series(a, b, pw) -/
theorem c_mseries (l : Launch) (dC : Nat → ClassId) (dI : Nat → Nat → Nat) (cA cJ : ClassId) (sz : Nat) (ma : Nat → Nat) (f g rs ww mo dg pl sl lf tl rw rt : Int → Int) (cd td mn : Int) (hf : RoW 3 f) (hg : RoW 5 g) (a b pw : Int) (ha : -9223372036854775808 ≤ a ∧ a < 9223372036854775808) (hb64 : -9223372036854775808 ≤ b ∧ b < 9223372036854775808) (hpw : 0 ≤ pw ∧ pw ≤ 40) : Met l y_Mod_series w_Mod_series ({ frames := 2, cells := 0, slots := 0, locals := 55 }) (va_Pc [.ref ((ma 0)), .long (lZ (a)), .long (lZ (b)), .int (iZ (pw))] (wP (dC, dI) vC [(cA, .int), (cJ, .long)] (mW cA cJ ma f g (rs, ww, mo, dg, pl, sl, lf, tl, rw, rt, cd, td, mn)) sz)) (va_Qi (fun (r9 : Int32) (u : MS) => r9 = iZ (srz f g (md a) (md b) pw) ∧ u.2.2.2.2.2.2.2.2.2.2.1 = 0) (fun (u : MS) t => wB (dC, dI) vC (va_A (mW cA cJ ma f g (rs, ww, mo, dg, pl, sl, lf, tl, rw, rt, cd, td, mn)) sz) (mW cA cJ ma f g u) t) (va_A (mW cA cJ ma f g (rs, ww, mo, dg, pl, sl, lf, tl, rw, rt, cd, td, mn)) sz)) 0 0 (va_A (mW cA cJ ma f g (rs, ww, mo, dg, pl, sl, lf, tl, rw, rt, cd, td, mn)) sz) := by
  refine Met.ofW (cc := b_Mod_series) (maxL := 6) (ret := (Option.some Jvm.ClassFile.FieldType.int)) (by decide) rfl ?_
  intro p e s m args below meth c s₁ B hml hv
  obtain ⟨rfl, hsz, hP, hK, hD0⟩ := hv
  have hx := B.exec
  have hb := B.bytes
  have hr := B.returns
  have hts : ∀ w ∈ tT, w.before _ s = true := fun w h => atoms_spec (ws := w_Mod_series) B.pre w (List.mem_cons_of_mem _ h)
  have hown : s.vm.findClass "OrderTwoCasesModel" = some m.cls := findClass_of_methodNamed B.named
  have hlocks := B.notSynchronized
  subst hsz
  have hD := hD0.self (sz := s.heap.size)
  generalize hAe : va_A (mW cA cJ ma f g (rs, ww, mo, dg, pl, sl, lf, tl, rw, rt, cd, td, mn)) s.heap.size = A at hD ⊢
  have hA : ∀ q : Nat, s.heap.size ≤ q → A q := fun q h => by rw [← hAe]; exact Or.inr h
  have hS : va_S A s.heap s.heap [] := va_S.rf
  have hl := lv_entry ([.ref ((ma 0)), .long (lZ (a)), .long (lZ (b)), .int (iZ (pw))]) (n := 6) (Nat.le_of_ble_eq_true rfl)
  rw [lg_entry_eq]
  generalize (lg_sl ([.ref ((ma 0)), .long (lZ (a)), .long (lZ (b)), .int (iZ (pw))]) ++ List.replicate (6 - (lg_sl ([.ref ((ma 0)), .long (lZ (a)), .long (lZ (b)), .int (iZ (pw))])).length) Slot.unset).toArray = ls at hl ⊢
  have hl : lv_has ls 6 [(0, .ref ((ma 0))), (1, .long (lZ (a))), (3, .long (lZ (b))), (5, .int (iZ (pw)))] := hl
  have hP : va_P (dC, dI) vC [((ma 0), .inr (5, [.int (iZ (cd)), .ref ((ma 1)), .ref ((ma 2)), .ref ((ma 3)), .ref ((ma 4)), .ref ((ma 5)), .int (iZ (td)), .int (iZ (mn)), .ref ((ma 6)), .ref ((ma 7)), .ref ((ma 8)), .ref ((ma 9)), .ref ((ma 10)), .ref ((ma 11)), .ref ((ma 12))])), ((ma 1), .inl (cA, 3, .inl (aR f))), ((ma 2), .inl (cA, 5, .inl (aR g))), ((ma 3), .inl (cJ, 5, .inr (.inl (aL rs)))), ((ma 4), .inl (cJ, 3, .inr (.inl (aL ww)))), ((ma 5), .inl (cJ, 5, .inr (.inl (aL mo)))), ((ma 6), .inl (cA, 2, .inl (aR dg))), ((ma 7), .inl (cJ, 26, .inr (.inl (aL pl)))), ((ma 8), .inl (cJ, 6, .inr (.inl (aL sl)))), ((ma 9), .inl (cJ, 20, .inr (.inl (aL lf)))), ((ma 10), .inl (cJ, 13, .inr (.inl (aL tl)))), ((ma 11), .inl (cJ, 41, .inr (.inl (aL rw)))), ((ma 12), .inl (cA, 2, .inl (aR rt)))] s.heap := hP
  have hD : va_D A [((ma 0), .inr (5, [.int (iZ (cd)), .ref ((ma 1)), .ref ((ma 2)), .ref ((ma 3)), .ref ((ma 4)), .ref ((ma 5)), .int (iZ (td)), .int (iZ (mn)), .ref ((ma 6)), .ref ((ma 7)), .ref ((ma 8)), .ref ((ma 9)), .ref ((ma 10)), .ref ((ma 11)), .ref ((ma 12))])), ((ma 1), .inl (cA, 3, .inl (aR f))), ((ma 2), .inl (cA, 5, .inl (aR g))), ((ma 3), .inl (cJ, 5, .inr (.inl (aL rs)))), ((ma 4), .inl (cJ, 3, .inr (.inl (aL ww)))), ((ma 5), .inl (cJ, 5, .inr (.inl (aL mo)))), ((ma 6), .inl (cA, 2, .inl (aR dg))), ((ma 7), .inl (cJ, 26, .inr (.inl (aL pl)))), ((ma 8), .inl (cJ, 6, .inr (.inl (aL sl)))), ((ma 9), .inl (cJ, 20, .inr (.inl (aL lf)))), ((ma 10), .inl (cJ, 13, .inr (.inl (aL tl)))), ((ma 11), .inl (cJ, 41, .inr (.inl (aL rw)))), ((ma 12), .inl (cA, 2, .inl (aR rt)))] := hD
  refine lv_aload_n hx hb d_Mod_series_0 rfl (lv_at hl 0 rfl) ?_
  refine lv_iload hx hb d_Mod_series_1 (lv_at hl 3 rfl) ?_
  refine z_i2l hx hb d_Mod_series_3 (by omega) ?_
  refine lv_lconst (v := lZ (0)) hx hb d_Mod_series_4 (by decide +kernel) ?_
  refine lv_ldc2 (v := lZ (40)) hx hb hown (show (Jvm.Cond.constantLong "OrderTwoCasesModel" 109 (lZ (40))).before _ s = true from hts _ k_611) d_Mod_series_5 ?_
  refine w_rdi (va_runS (As := [.long (lZ (pw)), .long (lZ (0)), .long (lZ (40))]) (rest := [.ref ((ma 0))]) ⟨hx, hb, hml, hown, hts⟩ (c_min l pw 0 40 (by omega) (by omega) (by omega)) (va_cwS 3 hts g_Mod_53 rfl rfl rfl (by decide +kernel) ⟨Nat.le_of_ble_eq_true rfl, Nat.le_of_ble_eq_true rfl⟩) preEq rfl rfl hl.1 rfl (lv_room (Nat.le_of_ble_eq_true rfl)) d_Mod_series_8 ⟨Nat.le_of_ble_eq_true rfl, Nat.le_of_ble_eq_true rfl⟩) ?_
  rw [if_pos (by omega)]
  refine z_if_eq (tgt := 18) hx hb d_Mod_series_11 (by decide) (by decide) (fun c_11 => ?_) (fun c_11 => ?_)
  · exact absurd c_11 (by decide)
  · refine lv_iconst (v := iZ (0)) hx hb d_Mod_series_14 rfl ?_
    refine lv_goto (tgt := 19) hx hb d_Mod_series_15 (by decide) ?_
    refine va_put (D := (dC, dI)) (ci := 5) (v := .int (iZ (0))) (ty := .int) (C := "OrderTwoCasesModel") (T := F_Mod) (N := 15) hx hb hts la_Mod t_Mod tok_Mod nm_Mod hown hK hP hD hS 0 rfl rfl 0 (by decide) (hts _ k_464) (fun _ h9 => h9) rfl (by decide +kernel) rfl rfl (Nat.le_of_ble_eq_true rfl) d_Mod_series_19 (fun H locs hP hD hS => ?_)
    have hP : va_P (dC, dI) vC [((ma 0), .inr (5, [.int (iZ (0)), .ref ((ma 1)), .ref ((ma 2)), .ref ((ma 3)), .ref ((ma 4)), .ref ((ma 5)), .int (iZ (td)), .int (iZ (mn)), .ref ((ma 6)), .ref ((ma 7)), .ref ((ma 8)), .ref ((ma 9)), .ref ((ma 10)), .ref ((ma 11)), .ref ((ma 12))])), ((ma 1), .inl (cA, 3, .inl (aR f))), ((ma 2), .inl (cA, 5, .inl (aR g))), ((ma 3), .inl (cJ, 5, .inr (.inl (aL rs)))), ((ma 4), .inl (cJ, 3, .inr (.inl (aL ww)))), ((ma 5), .inl (cJ, 5, .inr (.inl (aL mo)))), ((ma 6), .inl (cA, 2, .inl (aR dg))), ((ma 7), .inl (cJ, 26, .inr (.inl (aL pl)))), ((ma 8), .inl (cJ, 6, .inr (.inl (aL sl)))), ((ma 9), .inl (cJ, 20, .inr (.inl (aL lf)))), ((ma 10), .inl (cJ, 13, .inr (.inl (aL tl)))), ((ma 11), .inl (cJ, 41, .inr (.inl (aL rw)))), ((ma 12), .inl (cA, 2, .inl (aR rt)))] H := hP
    have hD : va_D A [((ma 0), .inr (5, [.int (iZ (0)), .ref ((ma 1)), .ref ((ma 2)), .ref ((ma 3)), .ref ((ma 4)), .ref ((ma 5)), .int (iZ (td)), .int (iZ (mn)), .ref ((ma 6)), .ref ((ma 7)), .ref ((ma 8)), .ref ((ma 9)), .ref ((ma 10)), .ref ((ma 11)), .ref ((ma 12))])), ((ma 1), .inl (cA, 3, .inl (aR f))), ((ma 2), .inl (cA, 5, .inl (aR g))), ((ma 3), .inl (cJ, 5, .inr (.inl (aL rs)))), ((ma 4), .inl (cJ, 3, .inr (.inl (aL ww)))), ((ma 5), .inl (cJ, 5, .inr (.inl (aL mo)))), ((ma 6), .inl (cA, 2, .inl (aR dg))), ((ma 7), .inl (cJ, 26, .inr (.inl (aL pl)))), ((ma 8), .inl (cJ, 6, .inr (.inl (aL sl)))), ((ma 9), .inl (cJ, 20, .inr (.inl (aL lf)))), ((ma 10), .inl (cJ, 13, .inr (.inl (aL tl)))), ((ma 11), .inl (cJ, 41, .inr (.inl (aL rw)))), ((ma 12), .inl (cA, 2, .inl (aR rt)))] := hD
    refine lv_aload_n hx hb d_Mod_series_22 rfl (lv_at hl 0 rfl) ?_
    refine va_get (D := (dC, dI)) (ci := 5) (v := .int (iZ (0))) (C := "OrderTwoCasesModel") (T := F_Mod) (N := 15) hx hb hts la_Mod hown hK hP 0 rfl rfl 0 (by decide) (hts _ k_464) (fun _ h9 => h9) rfl d_Mod_series_23 ?_
    refine z_if_le (tgt := 33) hx hb d_Mod_series_26 (by decide) (by decide) (fun c_26 => ?_) (fun c_26 => ?_)
    · refine lv_aload_n hx hb d_Mod_series_33 rfl (lv_at hl 0 rfl) ?_
      refine lv_lload_n hx hb d_Mod_series_34 rfl (lv_at hl 1 rfl) ?_
      refine lv_lload_n hx hb d_Mod_series_35 rfl (lv_at hl 2 rfl) ?_
      refine lv_iload hx hb d_Mod_series_36 (lv_at hl 3 rfl) ?_
      refine w_calli (wn := fun (u : MS) => [((ma 0), .inr (5, [.int (iZ (u.2.2.2.2.2.2.2.2.2.2.1)), .ref ((ma 1)), .ref ((ma 2)), .ref ((ma 3)), .ref ((ma 4)), .ref ((ma 5)), .int (iZ (u.2.2.2.2.2.2.2.2.2.2.2.1)), .int (iZ (u.2.2.2.2.2.2.2.2.2.2.2.2)), .ref ((ma 6)), .ref ((ma 7)), .ref ((ma 8)), .ref ((ma 9)), .ref ((ma 10)), .ref ((ma 11)), .ref ((ma 12))])), ((ma 1), .inl (cA, 3, .inl (aR f))), ((ma 2), .inl (cA, 5, .inl (aR g))), ((ma 3), .inl (cJ, 5, .inr (.inl (aL u.1)))), ((ma 4), .inl (cJ, 3, .inr (.inl (aL u.2.1)))), ((ma 5), .inl (cJ, 5, .inr (.inl (aL u.2.2.1)))), ((ma 6), .inl (cA, 2, .inl (aR u.2.2.2.1))), ((ma 7), .inl (cJ, 26, .inr (.inl (aL u.2.2.2.2.1)))), ((ma 8), .inl (cJ, 6, .inr (.inl (aL u.2.2.2.2.2.1)))), ((ma 9), .inl (cJ, 20, .inr (.inl (aL u.2.2.2.2.2.2.1)))), ((ma 10), .inl (cJ, 13, .inr (.inl (aL u.2.2.2.2.2.2.2.1)))), ((ma 11), .inl (cJ, 41, .inr (.inl (aL u.2.2.2.2.2.2.2.2.1)))), ((ma 12), .inl (cA, 2, .inl (aR u.2.2.2.2.2.2.2.2.2.1)))]) (wf := fun (u : MS) => [((ma 0), .inr (5, [.int (iZ (u.2.2.2.2.2.2.2.2.2.2.1)), .ref ((ma 1)), .ref ((ma 2)), .ref ((ma 3)), .ref ((ma 4)), .ref ((ma 5)), .int (iZ (u.2.2.2.2.2.2.2.2.2.2.2.1)), .int (iZ (u.2.2.2.2.2.2.2.2.2.2.2.2)), .ref ((ma 6)), .ref ((ma 7)), .ref ((ma 8)), .ref ((ma 9)), .ref ((ma 10)), .ref ((ma 11)), .ref ((ma 12))])), ((ma 1), .inl (cA, 3, .inl (aR f))), ((ma 2), .inl (cA, 5, .inl (aR g))), ((ma 3), .inl (cJ, 5, .inr (.inl (aL u.1)))), ((ma 4), .inl (cJ, 3, .inr (.inl (aL u.2.1)))), ((ma 5), .inl (cJ, 5, .inr (.inl (aL u.2.2.1)))), ((ma 6), .inl (cA, 2, .inl (aR u.2.2.2.1))), ((ma 7), .inl (cJ, 26, .inr (.inl (aL u.2.2.2.2.1)))), ((ma 8), .inl (cJ, 6, .inr (.inl (aL u.2.2.2.2.2.1)))), ((ma 9), .inl (cJ, 20, .inr (.inl (aL u.2.2.2.2.2.2.1)))), ((ma 10), .inl (cJ, 13, .inr (.inl (aL u.2.2.2.2.2.2.2.1)))), ((ma 11), .inl (cJ, 41, .inr (.inl (aL u.2.2.2.2.2.2.2.2.1)))), ((ma 12), .inl (cA, 2, .inl (aR u.2.2.2.2.2.2.2.2.2.1)))]) (wr := []) (va_runV (As := [.long (lZ (a)), .long (lZ (b)), .int (iZ (pw))]) (rest := []) ⟨hx, hb, hml, hown, hts⟩ (c_seriesAt l dC dI cA cJ H.size ma f g rs ww mo dg pl sl lf tl rw rt 0 td mn hf hg a b pw ha hb64 hpw) (cwV 3 hts g_Mod_111 rfl rfl rfl (by decide +kernel) ⟨Nat.le_of_ble_eq_true rfl, Nat.le_of_ble_eq_true rfl⟩) (wP_preV hK hP hD [0, 1] rfl [0, 1, 2, 3, 4, 5, 6, 7, 8, 9, 10, 11, 12] (by decide) rfl rfl rfl rfl 0 rfl) rfl rfl hl.1 rfl (lv_room (Nat.le_of_ble_eq_true rfl)) d_Mod_series_38 ⟨Nat.le_of_ble_eq_true rfl, Nat.le_of_ble_eq_true rfl⟩) hP hD hS hA [0, 1, 2, 3, 4, 5, 6, 7, 8, 9, 10, 11, 12] [] [0, 1, 2, 3, 4, 5, 6, 7, 8, 9, 10, 11, 12] rfl rfl (by decide) (by decide) (by decide) (fun _ => rfl) (fun _ => rfl) (fun rr_0 u H locs hw hP hD hS => ?_)
      obtain ⟨rs_0, ww_0, mo_0, dg_0, pl_0, sl_0, lf_0, tl_0, rw_0, rt_0, cd_0, td_0, mn_0⟩ := u
      obtain ⟨rfl, hcd8⟩ := hw
      dsimp only at hcd8
      have hP : va_P (dC, dI) vC [((ma 0), .inr (5, [.int (iZ (cd_0)), .ref ((ma 1)), .ref ((ma 2)), .ref ((ma 3)), .ref ((ma 4)), .ref ((ma 5)), .int (iZ (td_0)), .int (iZ (mn_0)), .ref ((ma 6)), .ref ((ma 7)), .ref ((ma 8)), .ref ((ma 9)), .ref ((ma 10)), .ref ((ma 11)), .ref ((ma 12))])), ((ma 1), .inl (cA, 3, .inl (aR f))), ((ma 2), .inl (cA, 5, .inl (aR g))), ((ma 3), .inl (cJ, 5, .inr (.inl (aL rs_0)))), ((ma 4), .inl (cJ, 3, .inr (.inl (aL ww_0)))), ((ma 5), .inl (cJ, 5, .inr (.inl (aL mo_0)))), ((ma 6), .inl (cA, 2, .inl (aR dg_0))), ((ma 7), .inl (cJ, 26, .inr (.inl (aL pl_0)))), ((ma 8), .inl (cJ, 6, .inr (.inl (aL sl_0)))), ((ma 9), .inl (cJ, 20, .inr (.inl (aL lf_0)))), ((ma 10), .inl (cJ, 13, .inr (.inl (aL tl_0)))), ((ma 11), .inl (cJ, 41, .inr (.inl (aL rw_0)))), ((ma 12), .inl (cA, 2, .inl (aR rt_0)))] H := hP
      have hD : va_D A [((ma 0), .inr (5, [.int (iZ (cd_0)), .ref ((ma 1)), .ref ((ma 2)), .ref ((ma 3)), .ref ((ma 4)), .ref ((ma 5)), .int (iZ (td_0)), .int (iZ (mn_0)), .ref ((ma 6)), .ref ((ma 7)), .ref ((ma 8)), .ref ((ma 9)), .ref ((ma 10)), .ref ((ma 11)), .ref ((ma 12))])), ((ma 1), .inl (cA, 3, .inl (aR f))), ((ma 2), .inl (cA, 5, .inl (aR g))), ((ma 3), .inl (cJ, 5, .inr (.inl (aL rs_0)))), ((ma 4), .inl (cJ, 3, .inr (.inl (aL ww_0)))), ((ma 5), .inl (cJ, 5, .inr (.inl (aL mo_0)))), ((ma 6), .inl (cA, 2, .inl (aR dg_0))), ((ma 7), .inl (cJ, 26, .inr (.inl (aL pl_0)))), ((ma 8), .inl (cJ, 6, .inr (.inl (aL sl_0)))), ((ma 9), .inl (cJ, 20, .inr (.inl (aL lf_0)))), ((ma 10), .inl (cJ, 13, .inr (.inl (aL tl_0)))), ((ma 11), .inl (cJ, 41, .inr (.inl (aL rw_0)))), ((ma 12), .inl (cA, 2, .inl (aR rt_0)))] := hD
      exact w_iret (post := fun (r9 : Int32) (u : MS) => r9 = iZ (srz f g (md a) (md b) pw) ∧ u.2.2.2.2.2.2.2.2.2.2.1 = 0) (wn := fun (u : MS) => mW cA cJ ma f g u) hx hb hr hlocks (rs_0, ww_0, mo_0, dg_0, pl_0, sl_0, lf_0, tl_0, rw_0, rt_0, cd_0, td_0, mn_0) ⟨rfl, hcd8.symm⟩ hP hD hS d_Mod_series_41
    · exact absurd (show (0 : Int) ≤ 0 by decide) c_26

set_option maxHeartbeats 4000000 in
set_option maxRecDepth 100000 in
/-- series, refused -/
theorem c_mseriesb (l : Launch) (dC : Nat → ClassId) (dI : Nat → Nat → Nat) (cA cJ : ClassId) (sz : Nat) (ma : Nat → Nat) (f g rs ww mo dg pl sl lf tl rw rt : Int → Int) (cd td mn : Int) (a b pw : Int) (hpw32 : -2147483648 ≤ pw ∧ pw < 2147483648) (hpw : pw < 0 ∨ 40 < pw) : Met l y_Mod_series w_Mod_series ({ frames := 2, cells := 0, slots := 0, locals := 55 }) (va_Pc [.ref ((ma 0)), .long (lZ (a)), .long (lZ (b)), .int (iZ (pw))] (wP (dC, dI) vC [(cA, .int), (cJ, .long)] (mW cA cJ ma f g (rs, ww, mo, dg, pl, sl, lf, tl, rw, rt, cd, td, mn)) sz)) (va_Qi (fun (r9 : Int32) (u : MS) => u.2.2.2.2.2.2.2.2.2.2.1 = 1) (fun (u : MS) t => wB (dC, dI) vC (va_A (mW cA cJ ma f g (rs, ww, mo, dg, pl, sl, lf, tl, rw, rt, cd, td, mn)) sz) (mW cA cJ ma f g u) t) (va_A (mW cA cJ ma f g (rs, ww, mo, dg, pl, sl, lf, tl, rw, rt, cd, td, mn)) sz)) 0 0 (va_A (mW cA cJ ma f g (rs, ww, mo, dg, pl, sl, lf, tl, rw, rt, cd, td, mn)) sz) := by
  refine Met.ofW (cc := b_Mod_series) (maxL := 6) (ret := (Option.some Jvm.ClassFile.FieldType.int)) (by decide) rfl ?_
  intro p e s m args below meth c s₁ B hml hv
  obtain ⟨rfl, hsz, hP, hK, hD0⟩ := hv
  have hx := B.exec
  have hb := B.bytes
  have hr := B.returns
  have hts : ∀ w ∈ tT, w.before _ s = true := fun w h => atoms_spec (ws := w_Mod_series) B.pre w (List.mem_cons_of_mem _ h)
  have hown : s.vm.findClass "OrderTwoCasesModel" = some m.cls := findClass_of_methodNamed B.named
  have hlocks := B.notSynchronized
  subst hsz
  have hD := hD0.self (sz := s.heap.size)
  generalize hAe : va_A (mW cA cJ ma f g (rs, ww, mo, dg, pl, sl, lf, tl, rw, rt, cd, td, mn)) s.heap.size = A at hD ⊢
  have hA : ∀ q : Nat, s.heap.size ≤ q → A q := fun q h => by rw [← hAe]; exact Or.inr h
  have hS : va_S A s.heap s.heap [] := va_S.rf
  have hl := lv_entry ([.ref ((ma 0)), .long (lZ (a)), .long (lZ (b)), .int (iZ (pw))]) (n := 6) (Nat.le_of_ble_eq_true rfl)
  rw [lg_entry_eq]
  generalize (lg_sl ([.ref ((ma 0)), .long (lZ (a)), .long (lZ (b)), .int (iZ (pw))]) ++ List.replicate (6 - (lg_sl ([.ref ((ma 0)), .long (lZ (a)), .long (lZ (b)), .int (iZ (pw))])).length) Slot.unset).toArray = ls at hl ⊢
  have hl : lv_has ls 6 [(0, .ref ((ma 0))), (1, .long (lZ (a))), (3, .long (lZ (b))), (5, .int (iZ (pw)))] := hl
  have hP : va_P (dC, dI) vC [((ma 0), .inr (5, [.int (iZ (cd)), .ref ((ma 1)), .ref ((ma 2)), .ref ((ma 3)), .ref ((ma 4)), .ref ((ma 5)), .int (iZ (td)), .int (iZ (mn)), .ref ((ma 6)), .ref ((ma 7)), .ref ((ma 8)), .ref ((ma 9)), .ref ((ma 10)), .ref ((ma 11)), .ref ((ma 12))])), ((ma 1), .inl (cA, 3, .inl (aR f))), ((ma 2), .inl (cA, 5, .inl (aR g))), ((ma 3), .inl (cJ, 5, .inr (.inl (aL rs)))), ((ma 4), .inl (cJ, 3, .inr (.inl (aL ww)))), ((ma 5), .inl (cJ, 5, .inr (.inl (aL mo)))), ((ma 6), .inl (cA, 2, .inl (aR dg))), ((ma 7), .inl (cJ, 26, .inr (.inl (aL pl)))), ((ma 8), .inl (cJ, 6, .inr (.inl (aL sl)))), ((ma 9), .inl (cJ, 20, .inr (.inl (aL lf)))), ((ma 10), .inl (cJ, 13, .inr (.inl (aL tl)))), ((ma 11), .inl (cJ, 41, .inr (.inl (aL rw)))), ((ma 12), .inl (cA, 2, .inl (aR rt)))] s.heap := hP
  have hD : va_D A [((ma 0), .inr (5, [.int (iZ (cd)), .ref ((ma 1)), .ref ((ma 2)), .ref ((ma 3)), .ref ((ma 4)), .ref ((ma 5)), .int (iZ (td)), .int (iZ (mn)), .ref ((ma 6)), .ref ((ma 7)), .ref ((ma 8)), .ref ((ma 9)), .ref ((ma 10)), .ref ((ma 11)), .ref ((ma 12))])), ((ma 1), .inl (cA, 3, .inl (aR f))), ((ma 2), .inl (cA, 5, .inl (aR g))), ((ma 3), .inl (cJ, 5, .inr (.inl (aL rs)))), ((ma 4), .inl (cJ, 3, .inr (.inl (aL ww)))), ((ma 5), .inl (cJ, 5, .inr (.inl (aL mo)))), ((ma 6), .inl (cA, 2, .inl (aR dg))), ((ma 7), .inl (cJ, 26, .inr (.inl (aL pl)))), ((ma 8), .inl (cJ, 6, .inr (.inl (aL sl)))), ((ma 9), .inl (cJ, 20, .inr (.inl (aL lf)))), ((ma 10), .inl (cJ, 13, .inr (.inl (aL tl)))), ((ma 11), .inl (cJ, 41, .inr (.inl (aL rw)))), ((ma 12), .inl (cA, 2, .inl (aR rt)))] := hD
  refine lv_aload_n hx hb d_Mod_series_0 rfl (lv_at hl 0 rfl) ?_
  refine lv_iload hx hb d_Mod_series_1 (lv_at hl 3 rfl) ?_
  refine z_i2l hx hb d_Mod_series_3 (by omega) ?_
  refine lv_lconst (v := lZ (0)) hx hb d_Mod_series_4 (by decide +kernel) ?_
  refine lv_ldc2 (v := lZ (40)) hx hb hown (show (Jvm.Cond.constantLong "OrderTwoCasesModel" 109 (lZ (40))).before _ s = true from hts _ k_611) d_Mod_series_5 ?_
  refine w_rdi (va_runS (As := [.long (lZ (pw)), .long (lZ (0)), .long (lZ (40))]) (rest := [.ref ((ma 0))]) ⟨hx, hb, hml, hown, hts⟩ (c_min l pw 0 40 (by omega) (by omega) (by omega)) (va_cwS 3 hts g_Mod_53 rfl rfl rfl (by decide +kernel) ⟨Nat.le_of_ble_eq_true rfl, Nat.le_of_ble_eq_true rfl⟩) preEq rfl rfl hl.1 rfl (lv_room (Nat.le_of_ble_eq_true rfl)) d_Mod_series_8 ⟨Nat.le_of_ble_eq_true rfl, Nat.le_of_ble_eq_true rfl⟩) ?_
  rw [if_neg (by omega)]
  refine z_if_eq (tgt := 18) hx hb d_Mod_series_11 (by decide) (by decide) (fun c_11 => ?_) (fun c_11 => ?_)
  · refine lv_iconst (v := iZ (1)) hx hb d_Mod_series_18 rfl ?_
    refine va_put (D := (dC, dI)) (ci := 5) (v := .int (iZ (1))) (ty := .int) (C := "OrderTwoCasesModel") (T := F_Mod) (N := 15) hx hb hts la_Mod t_Mod tok_Mod nm_Mod hown hK hP hD hS 0 rfl rfl 0 (by decide) (hts _ k_464) (fun _ h9 => h9) rfl (by decide +kernel) rfl rfl (Nat.le_of_ble_eq_true rfl) d_Mod_series_19 (fun H locs hP hD hS => ?_)
    have hP : va_P (dC, dI) vC [((ma 0), .inr (5, [.int (iZ (1)), .ref ((ma 1)), .ref ((ma 2)), .ref ((ma 3)), .ref ((ma 4)), .ref ((ma 5)), .int (iZ (td)), .int (iZ (mn)), .ref ((ma 6)), .ref ((ma 7)), .ref ((ma 8)), .ref ((ma 9)), .ref ((ma 10)), .ref ((ma 11)), .ref ((ma 12))])), ((ma 1), .inl (cA, 3, .inl (aR f))), ((ma 2), .inl (cA, 5, .inl (aR g))), ((ma 3), .inl (cJ, 5, .inr (.inl (aL rs)))), ((ma 4), .inl (cJ, 3, .inr (.inl (aL ww)))), ((ma 5), .inl (cJ, 5, .inr (.inl (aL mo)))), ((ma 6), .inl (cA, 2, .inl (aR dg))), ((ma 7), .inl (cJ, 26, .inr (.inl (aL pl)))), ((ma 8), .inl (cJ, 6, .inr (.inl (aL sl)))), ((ma 9), .inl (cJ, 20, .inr (.inl (aL lf)))), ((ma 10), .inl (cJ, 13, .inr (.inl (aL tl)))), ((ma 11), .inl (cJ, 41, .inr (.inl (aL rw)))), ((ma 12), .inl (cA, 2, .inl (aR rt)))] H := hP
    have hD : va_D A [((ma 0), .inr (5, [.int (iZ (1)), .ref ((ma 1)), .ref ((ma 2)), .ref ((ma 3)), .ref ((ma 4)), .ref ((ma 5)), .int (iZ (td)), .int (iZ (mn)), .ref ((ma 6)), .ref ((ma 7)), .ref ((ma 8)), .ref ((ma 9)), .ref ((ma 10)), .ref ((ma 11)), .ref ((ma 12))])), ((ma 1), .inl (cA, 3, .inl (aR f))), ((ma 2), .inl (cA, 5, .inl (aR g))), ((ma 3), .inl (cJ, 5, .inr (.inl (aL rs)))), ((ma 4), .inl (cJ, 3, .inr (.inl (aL ww)))), ((ma 5), .inl (cJ, 5, .inr (.inl (aL mo)))), ((ma 6), .inl (cA, 2, .inl (aR dg))), ((ma 7), .inl (cJ, 26, .inr (.inl (aL pl)))), ((ma 8), .inl (cJ, 6, .inr (.inl (aL sl)))), ((ma 9), .inl (cJ, 20, .inr (.inl (aL lf)))), ((ma 10), .inl (cJ, 13, .inr (.inl (aL tl)))), ((ma 11), .inl (cJ, 41, .inr (.inl (aL rw)))), ((ma 12), .inl (cA, 2, .inl (aR rt)))] := hD
    refine lv_aload_n hx hb d_Mod_series_22 rfl (lv_at hl 0 rfl) ?_
    refine va_get (D := (dC, dI)) (ci := 5) (v := .int (iZ (1))) (C := "OrderTwoCasesModel") (T := F_Mod) (N := 15) hx hb hts la_Mod hown hK hP 0 rfl rfl 0 (by decide) (hts _ k_464) (fun _ h9 => h9) rfl d_Mod_series_23 ?_
    refine z_if_le (tgt := 33) hx hb d_Mod_series_26 (by decide) (by decide) (fun c_26 => ?_) (fun c_26 => ?_)
    · exact absurd c_26 (by decide)
    · refine lv_iconst (v := iZ (0)) hx hb d_Mod_series_29 rfl ?_
      refine lv_goto (tgt := 41) hx hb d_Mod_series_30 (by decide) ?_
      exact w_iret (post := fun (_ : Int32) (u : MS) => u.2.2.2.2.2.2.2.2.2.2.1 = 1) (wn := fun (u : MS) => mW cA cJ ma f g u) hx hb hr hlocks (rs, ww, mo, dg, pl, sl, lf, tl, rw, rt, 1, td, mn) rfl hP hD hS d_Mod_series_41
  · exact absurd rfl c_11

set_option maxHeartbeats 4000000 in
set_option maxRecDepth 100000 in
/-- answer of an ANSWER -/
theorem c_manswer (l : Launch) (dC : Nat → ClassId) (dI : Nat → Nat → Nat) (cA cJ : ClassId) (sz : Nat) (ma : Nat → Nat) (f g rs ww mo dg pl sl lf tl rw rt : Int → Int) (cd td mn : Int) (hf : RoW 3 f) (hg : RoW 5 g) (U Y : Int → Int) (x : Int) (hx7 : 0 ≤ x ∧ x < ((anz f g).length : Int)) (hAn : (anz f g)[x.toNat]? = some (U, Y)) (n : Int) (hn : 0 ≤ n ∧ n ≤ 40) : Met l y_Mod_answer w_Mod_answer ({ frames := 5, cells := 0, slots := 0, locals := 124 }) (va_Pc [.ref ((ma 0)), .int (iZ (x)), .int (iZ (n))] (wP (dC, dI) vC [(cA, .int), (cJ, .long)] (mW cA cJ ma f g (rs, ww, mo, dg, pl, sl, lf, tl, rw, rt, cd, td, mn)) sz)) (va_Qi (fun (r9 : Int32) (u : MS) => r9 = iZ (srz f g (md (Y 0)) (md (Y 1 + Y 0 * U 0)) n) ∧ u.2.2.2.2.2.2.2.2.2.2.1 = 0) (fun (u : MS) t => wB (dC, dI) vC (va_A (mW cA cJ ma f g (rs, ww, mo, dg, pl, sl, lf, tl, rw, rt, cd, td, mn)) sz) (mW cA cJ ma f g u) t) (va_A (mW cA cJ ma f g (rs, ww, mo, dg, pl, sl, lf, tl, rw, rt, cd, td, mn)) sz)) 0 0 (va_A (mW cA cJ ma f g (rs, ww, mo, dg, pl, sl, lf, tl, rw, rt, cd, td, mn)) sz) := by
  refine Met.ofW (cc := b_Mod_answer) (maxL := 5) (ret := (Option.some Jvm.ClassFile.FieldType.int)) (by decide) rfl ?_
  intro p e s m args below meth c s₁ B hml hv
  obtain ⟨rfl, hsz, hP, hK, hD0⟩ := hv
  have hx := B.exec
  have hb := B.bytes
  have hr := B.returns
  have hts : ∀ w ∈ tT, w.before _ s = true := fun w h => atoms_spec (ws := w_Mod_answer) B.pre w (List.mem_cons_of_mem _ h)
  have hown : s.vm.findClass "OrderTwoCasesModel" = some m.cls := findClass_of_methodNamed B.named
  have hlocks := B.notSynchronized
  subst hsz
  have hD := hD0.self (sz := s.heap.size)
  generalize hAe : va_A (mW cA cJ ma f g (rs, ww, mo, dg, pl, sl, lf, tl, rw, rt, cd, td, mn)) s.heap.size = A at hD ⊢
  have hA : ∀ q : Nat, s.heap.size ≤ q → A q := fun q h => by rw [← hAe]; exact Or.inr h
  have hS : va_S A s.heap s.heap [] := va_S.rf
  have hl := lv_entry ([.ref ((ma 0)), .int (iZ (x)), .int (iZ (n))]) (n := 5) (Nat.le_of_ble_eq_true rfl)
  rw [lg_entry_eq]
  generalize (lg_sl ([.ref ((ma 0)), .int (iZ (x)), .int (iZ (n))]) ++ List.replicate (5 - (lg_sl ([.ref ((ma 0)), .int (iZ (x)), .int (iZ (n))])).length) Slot.unset).toArray = ls at hl ⊢
  have hl : lv_has ls 5 [(0, .ref ((ma 0))), (1, .int (iZ (x))), (2, .int (iZ (n)))] := hl
  have hP : va_P (dC, dI) vC [((ma 0), .inr (5, [.int (iZ (cd)), .ref ((ma 1)), .ref ((ma 2)), .ref ((ma 3)), .ref ((ma 4)), .ref ((ma 5)), .int (iZ (td)), .int (iZ (mn)), .ref ((ma 6)), .ref ((ma 7)), .ref ((ma 8)), .ref ((ma 9)), .ref ((ma 10)), .ref ((ma 11)), .ref ((ma 12))])), ((ma 1), .inl (cA, 3, .inl (aR f))), ((ma 2), .inl (cA, 5, .inl (aR g))), ((ma 3), .inl (cJ, 5, .inr (.inl (aL rs)))), ((ma 4), .inl (cJ, 3, .inr (.inl (aL ww)))), ((ma 5), .inl (cJ, 5, .inr (.inl (aL mo)))), ((ma 6), .inl (cA, 2, .inl (aR dg))), ((ma 7), .inl (cJ, 26, .inr (.inl (aL pl)))), ((ma 8), .inl (cJ, 6, .inr (.inl (aL sl)))), ((ma 9), .inl (cJ, 20, .inr (.inl (aL lf)))), ((ma 10), .inl (cJ, 13, .inr (.inl (aL tl)))), ((ma 11), .inl (cJ, 41, .inr (.inl (aL rw)))), ((ma 12), .inl (cA, 2, .inl (aR rt)))] s.heap := hP
  have hD : va_D A [((ma 0), .inr (5, [.int (iZ (cd)), .ref ((ma 1)), .ref ((ma 2)), .ref ((ma 3)), .ref ((ma 4)), .ref ((ma 5)), .int (iZ (td)), .int (iZ (mn)), .ref ((ma 6)), .ref ((ma 7)), .ref ((ma 8)), .ref ((ma 9)), .ref ((ma 10)), .ref ((ma 11)), .ref ((ma 12))])), ((ma 1), .inl (cA, 3, .inl (aR f))), ((ma 2), .inl (cA, 5, .inl (aR g))), ((ma 3), .inl (cJ, 5, .inr (.inl (aL rs)))), ((ma 4), .inl (cJ, 3, .inr (.inl (aL ww)))), ((ma 5), .inl (cJ, 5, .inr (.inl (aL mo)))), ((ma 6), .inl (cA, 2, .inl (aR dg))), ((ma 7), .inl (cJ, 26, .inr (.inl (aL pl)))), ((ma 8), .inl (cJ, 6, .inr (.inl (aL sl)))), ((ma 9), .inl (cJ, 20, .inr (.inl (aL lf)))), ((ma 10), .inl (cJ, 13, .inr (.inl (aL tl)))), ((ma 11), .inl (cJ, 41, .inr (.inl (aL rw)))), ((ma 12), .inl (cA, 2, .inl (aR rt)))] := hD
  have hle8 := an_le f g
  refine lv_aload_n hx hb d_Mod_answer_0 rfl (lv_at hl 0 rfl) ?_
  refine lv_iload_n hx hb d_Mod_answer_1 rfl (lv_at hl 1 rfl) ?_
  refine lv_iload_n hx hb d_Mod_answer_2 rfl (lv_at hl 2 rfl) ?_
  refine lv_bipush (v := iZ (40)) hx hb d_Mod_answer_3 (by decide +kernel) ?_
  refine w_calli (wn := fun (u : MS) => [((ma 0), .inr (5, [.int (iZ (u.2.2.2.2.2.2.2.2.2.2.1)), .ref ((ma 1)), .ref ((ma 2)), .ref ((ma 3)), .ref ((ma 4)), .ref ((ma 5)), .int (iZ (u.2.2.2.2.2.2.2.2.2.2.2.1)), .int (iZ (u.2.2.2.2.2.2.2.2.2.2.2.2)), .ref ((ma 6)), .ref ((ma 7)), .ref ((ma 8)), .ref ((ma 9)), .ref ((ma 10)), .ref ((ma 11)), .ref ((ma 12))])), ((ma 1), .inl (cA, 3, .inl (aR f))), ((ma 2), .inl (cA, 5, .inl (aR g))), ((ma 3), .inl (cJ, 5, .inr (.inl (aL u.1)))), ((ma 4), .inl (cJ, 3, .inr (.inl (aL u.2.1)))), ((ma 5), .inl (cJ, 5, .inr (.inl (aL u.2.2.1)))), ((ma 6), .inl (cA, 2, .inl (aR u.2.2.2.1))), ((ma 7), .inl (cJ, 26, .inr (.inl (aL u.2.2.2.2.1)))), ((ma 8), .inl (cJ, 6, .inr (.inl (aL u.2.2.2.2.2.1)))), ((ma 9), .inl (cJ, 20, .inr (.inl (aL u.2.2.2.2.2.2.1)))), ((ma 10), .inl (cJ, 13, .inr (.inl (aL u.2.2.2.2.2.2.2.1)))), ((ma 11), .inl (cJ, 41, .inr (.inl (aL u.2.2.2.2.2.2.2.2.1)))), ((ma 12), .inl (cA, 2, .inl (aR u.2.2.2.2.2.2.2.2.2.1)))]) (wf := fun (u : MS) => [((ma 0), .inr (5, [.int (iZ (u.2.2.2.2.2.2.2.2.2.2.1)), .ref ((ma 1)), .ref ((ma 2)), .ref ((ma 3)), .ref ((ma 4)), .ref ((ma 5)), .int (iZ (u.2.2.2.2.2.2.2.2.2.2.2.1)), .int (iZ (u.2.2.2.2.2.2.2.2.2.2.2.2)), .ref ((ma 6)), .ref ((ma 7)), .ref ((ma 8)), .ref ((ma 9)), .ref ((ma 10)), .ref ((ma 11)), .ref ((ma 12))])), ((ma 1), .inl (cA, 3, .inl (aR f))), ((ma 2), .inl (cA, 5, .inl (aR g))), ((ma 3), .inl (cJ, 5, .inr (.inl (aL u.1)))), ((ma 4), .inl (cJ, 3, .inr (.inl (aL u.2.1)))), ((ma 5), .inl (cJ, 5, .inr (.inl (aL u.2.2.1)))), ((ma 6), .inl (cA, 2, .inl (aR u.2.2.2.1))), ((ma 7), .inl (cJ, 26, .inr (.inl (aL u.2.2.2.2.1)))), ((ma 8), .inl (cJ, 6, .inr (.inl (aL u.2.2.2.2.2.1)))), ((ma 9), .inl (cJ, 20, .inr (.inl (aL u.2.2.2.2.2.2.1)))), ((ma 10), .inl (cJ, 13, .inr (.inl (aL u.2.2.2.2.2.2.2.1)))), ((ma 11), .inl (cJ, 41, .inr (.inl (aL u.2.2.2.2.2.2.2.2.1)))), ((ma 12), .inl (cA, 2, .inl (aR u.2.2.2.2.2.2.2.2.2.1)))]) (wr := []) (va_runV (As := [.int (iZ (x)), .int (iZ (n)), .int (iZ (40))]) (rest := []) ⟨hx, hb, hml, hown, hts⟩ (c_isAns l dC dI cA cJ s.heap.size ma f g rs ww mo dg pl sl lf tl rw rt cd td mn hf hg x n 40 (by omega) (by omega) (by omega) hx7 (by omega)) (cwV 3 hts g_Mod_105 rfl rfl rfl (by decide +kernel) ⟨Nat.le_of_ble_eq_true rfl, Nat.le_of_ble_eq_true rfl⟩) (wP_preV hK hP hD [0, 1] rfl [0, 1, 2, 3, 4, 5, 6, 7, 8, 9, 10, 11, 12] (by decide) rfl rfl rfl rfl 0 rfl) rfl rfl hl.1 rfl (lv_room (Nat.le_of_ble_eq_true rfl)) d_Mod_answer_5 ⟨Nat.le_of_ble_eq_true rfl, Nat.le_of_ble_eq_true rfl⟩) hP hD hS hA [0, 1, 2, 3, 4, 5, 6, 7, 8, 9, 10, 11, 12] [] [0, 1, 2, 3, 4, 5, 6, 7, 8, 9, 10, 11, 12] rfl rfl (by decide) (by decide) (by decide) (fun _ => rfl) (fun _ => rfl) (fun rr_0 u H locs hw hP hD hS => ?_)
  obtain ⟨rs_0, ww_0, mo_0, dg_0, pl_0, sl_0, lf_0, tl_0, rw_0, rt_0, cd_0, td_0, mn_0⟩ := u
  obtain ⟨rfl, hans, hcd9⟩ := hw
  dsimp only at hans hcd9
  have hle9 := an_le f g
  have hA9 := hans.2 x.toNat U Y hAn
  rw [Int.toNat_of_nonneg hx7.1] at hA9
  have hP : va_P (dC, dI) vC [((ma 0), .inr (5, [.int (iZ (cd_0)), .ref ((ma 1)), .ref ((ma 2)), .ref ((ma 3)), .ref ((ma 4)), .ref ((ma 5)), .int (iZ (td_0)), .int (iZ (mn_0)), .ref ((ma 6)), .ref ((ma 7)), .ref ((ma 8)), .ref ((ma 9)), .ref ((ma 10)), .ref ((ma 11)), .ref ((ma 12))])), ((ma 1), .inl (cA, 3, .inl (aR f))), ((ma 2), .inl (cA, 5, .inl (aR g))), ((ma 3), .inl (cJ, 5, .inr (.inl (aL rs_0)))), ((ma 4), .inl (cJ, 3, .inr (.inl (aL ww_0)))), ((ma 5), .inl (cJ, 5, .inr (.inl (aL mo_0)))), ((ma 6), .inl (cA, 2, .inl (aR dg_0))), ((ma 7), .inl (cJ, 26, .inr (.inl (aL pl_0)))), ((ma 8), .inl (cJ, 6, .inr (.inl (aL sl_0)))), ((ma 9), .inl (cJ, 20, .inr (.inl (aL lf_0)))), ((ma 10), .inl (cJ, 13, .inr (.inl (aL tl_0)))), ((ma 11), .inl (cJ, 41, .inr (.inl (aL rw_0)))), ((ma 12), .inl (cA, 2, .inl (aR rt_0)))] H := hP
  have hD : va_D A [((ma 0), .inr (5, [.int (iZ (cd_0)), .ref ((ma 1)), .ref ((ma 2)), .ref ((ma 3)), .ref ((ma 4)), .ref ((ma 5)), .int (iZ (td_0)), .int (iZ (mn_0)), .ref ((ma 6)), .ref ((ma 7)), .ref ((ma 8)), .ref ((ma 9)), .ref ((ma 10)), .ref ((ma 11)), .ref ((ma 12))])), ((ma 1), .inl (cA, 3, .inl (aR f))), ((ma 2), .inl (cA, 5, .inl (aR g))), ((ma 3), .inl (cJ, 5, .inr (.inl (aL rs_0)))), ((ma 4), .inl (cJ, 3, .inr (.inl (aL ww_0)))), ((ma 5), .inl (cJ, 5, .inr (.inl (aL mo_0)))), ((ma 6), .inl (cA, 2, .inl (aR dg_0))), ((ma 7), .inl (cJ, 26, .inr (.inl (aL pl_0)))), ((ma 8), .inl (cJ, 6, .inr (.inl (aL sl_0)))), ((ma 9), .inl (cJ, 20, .inr (.inl (aL lf_0)))), ((ma 10), .inl (cJ, 13, .inr (.inl (aL tl_0)))), ((ma 11), .inl (cJ, 41, .inr (.inl (aL rw_0)))), ((ma 12), .inl (cA, 2, .inl (aR rt_0)))] := hD
  refine z_if_ne (tgt := 13) hx hb d_Mod_answer_8 (by decide) (by decide) (fun c_8 => ?_) (fun c_8 => ?_)
  · have hA0 : pl_0 (13 * x) = Y 0 := by have := hA9.1 0 (by decide) (by decide); rwa [Int.add_zero] at this
    have hA1 : pl_0 (13 * x + 1) = Y 1 := hA9.1 1 (by decide) (by decide)
    have hA2 : sl_0 (3 * x) = U 0 := by have := hA9.2.2 0 (by decide) (by decide); rwa [Int.add_zero] at this
    have hrw := an_row hAn
    have hq1 := ans_bd (hrw.1.r 0) (hrw.2.r 1) (hrw.2.r 0)
    have hq0 := hrw.2.r 0
    refine lv_aload_n hx hb d_Mod_answer_13 rfl (lv_at hl 0 rfl) ?_
    refine va_get (D := (dC, dI)) (ci := 5) (v := .ref ((ma 7))) (C := "OrderTwoCasesModel") (T := F_Mod) (N := 15) hx hb hts la_Mod hown hK hP 0 rfl rfl 9 (by decide) (hts _ k_473) (fun _ h9 => h9) rfl d_Mod_answer_14 ?_
    refine lv_bipush (v := iZ (13)) hx hb d_Mod_answer_17 (by decide +kernel) ?_
    refine lv_iload_n hx hb d_Mod_answer_19 rfl (lv_at hl 1 rfl) ?_
    refine z_imul hx hb d_Mod_answer_20 ?_
    refine z_lald hx hb hK hP 7 1 rfl rfl (by omega) (by omega) (by omega) d_Mod_answer_21 ?_
    refine lv_lstore_n (lv' := [(3, .long (lZ (pl_0 (13 * x)))), (0, .ref ((ma 0))), (1, .int (iZ (x))), (2, .int (iZ (n)))]) hx hb d_Mod_answer_22 rfl hl (by decide) rfl (fun ls hl => ?_)
    refine lv_aload_n hx hb d_Mod_answer_23 rfl (lv_at hl 1 rfl) ?_
    refine lv_lload_n hx hb d_Mod_answer_24 rfl (lv_at hl 0 rfl) ?_
    refine lv_aload_n hx hb d_Mod_answer_25 rfl (lv_at hl 1 rfl) ?_
    refine va_get (D := (dC, dI)) (ci := 5) (v := .ref ((ma 7))) (C := "OrderTwoCasesModel") (T := F_Mod) (N := 15) hx hb hts la_Mod hown hK hP 0 rfl rfl 9 (by decide) (hts _ k_473) (fun _ h9 => h9) rfl d_Mod_answer_26 ?_
    refine lv_bipush (v := iZ (13)) hx hb d_Mod_answer_29 (by decide +kernel) ?_
    refine lv_iload_n hx hb d_Mod_answer_31 rfl (lv_at hl 2 rfl) ?_
    refine z_imul hx hb d_Mod_answer_32 ?_
    refine lv_iconst (v := iZ (1)) hx hb d_Mod_answer_33 rfl ?_
    refine z_iadd hx hb d_Mod_answer_34 ?_
    refine z_lald hx hb hK hP 7 1 rfl rfl (by omega) (by omega) (by omega) d_Mod_answer_35 ?_
    refine lv_aload_n hx hb d_Mod_answer_36 rfl (lv_at hl 1 rfl) ?_
    refine va_get (D := (dC, dI)) (ci := 5) (v := .ref ((ma 8))) (C := "OrderTwoCasesModel") (T := F_Mod) (N := 15) hx hb hts la_Mod hown hK hP 0 rfl rfl 10 (by decide) (hts _ k_474) (fun _ h9 => h9) rfl d_Mod_answer_37 ?_
    refine lv_iconst (v := iZ (3)) hx hb d_Mod_answer_40 rfl ?_
    refine lv_iload_n hx hb d_Mod_answer_41 rfl (lv_at hl 2 rfl) ?_
    refine z_imul hx hb d_Mod_answer_42 ?_
    refine z_lald hx hb hK hP 8 1 rfl rfl (by omega) (by omega) (by omega) d_Mod_answer_43 ?_
    refine lv_lload_n hx hb d_Mod_answer_44 rfl (lv_at hl 0 rfl) ?_
    refine z_lmul hx hb d_Mod_answer_45 ?_
    refine z_ladd hx hb d_Mod_answer_46 ?_
    refine lv_iload_n hx hb d_Mod_answer_47 rfl (lv_at hl 3 rfl) ?_
    refine w_calli (wn := fun (u : MS) => [((ma 0), .inr (5, [.int (iZ (u.2.2.2.2.2.2.2.2.2.2.1)), .ref ((ma 1)), .ref ((ma 2)), .ref ((ma 3)), .ref ((ma 4)), .ref ((ma 5)), .int (iZ (u.2.2.2.2.2.2.2.2.2.2.2.1)), .int (iZ (u.2.2.2.2.2.2.2.2.2.2.2.2)), .ref ((ma 6)), .ref ((ma 7)), .ref ((ma 8)), .ref ((ma 9)), .ref ((ma 10)), .ref ((ma 11)), .ref ((ma 12))])), ((ma 1), .inl (cA, 3, .inl (aR f))), ((ma 2), .inl (cA, 5, .inl (aR g))), ((ma 3), .inl (cJ, 5, .inr (.inl (aL u.1)))), ((ma 4), .inl (cJ, 3, .inr (.inl (aL u.2.1)))), ((ma 5), .inl (cJ, 5, .inr (.inl (aL u.2.2.1)))), ((ma 6), .inl (cA, 2, .inl (aR u.2.2.2.1))), ((ma 7), .inl (cJ, 26, .inr (.inl (aL u.2.2.2.2.1)))), ((ma 8), .inl (cJ, 6, .inr (.inl (aL u.2.2.2.2.2.1)))), ((ma 9), .inl (cJ, 20, .inr (.inl (aL u.2.2.2.2.2.2.1)))), ((ma 10), .inl (cJ, 13, .inr (.inl (aL u.2.2.2.2.2.2.2.1)))), ((ma 11), .inl (cJ, 41, .inr (.inl (aL u.2.2.2.2.2.2.2.2.1)))), ((ma 12), .inl (cA, 2, .inl (aR u.2.2.2.2.2.2.2.2.2.1)))]) (wf := fun (u : MS) => [((ma 0), .inr (5, [.int (iZ (u.2.2.2.2.2.2.2.2.2.2.1)), .ref ((ma 1)), .ref ((ma 2)), .ref ((ma 3)), .ref ((ma 4)), .ref ((ma 5)), .int (iZ (u.2.2.2.2.2.2.2.2.2.2.2.1)), .int (iZ (u.2.2.2.2.2.2.2.2.2.2.2.2)), .ref ((ma 6)), .ref ((ma 7)), .ref ((ma 8)), .ref ((ma 9)), .ref ((ma 10)), .ref ((ma 11)), .ref ((ma 12))])), ((ma 1), .inl (cA, 3, .inl (aR f))), ((ma 2), .inl (cA, 5, .inl (aR g))), ((ma 3), .inl (cJ, 5, .inr (.inl (aL u.1)))), ((ma 4), .inl (cJ, 3, .inr (.inl (aL u.2.1)))), ((ma 5), .inl (cJ, 5, .inr (.inl (aL u.2.2.1)))), ((ma 6), .inl (cA, 2, .inl (aR u.2.2.2.1))), ((ma 7), .inl (cJ, 26, .inr (.inl (aL u.2.2.2.2.1)))), ((ma 8), .inl (cJ, 6, .inr (.inl (aL u.2.2.2.2.2.1)))), ((ma 9), .inl (cJ, 20, .inr (.inl (aL u.2.2.2.2.2.2.1)))), ((ma 10), .inl (cJ, 13, .inr (.inl (aL u.2.2.2.2.2.2.2.1)))), ((ma 11), .inl (cJ, 41, .inr (.inl (aL u.2.2.2.2.2.2.2.2.1)))), ((ma 12), .inl (cA, 2, .inl (aR u.2.2.2.2.2.2.2.2.2.1)))]) (wr := []) (va_runV (As := [.long (lZ (pl_0 (13 * x))), .long (lZ ((pl_0 ((13 * x) + 1)) + ((sl_0 (3 * x)) * (pl_0 (13 * x))))), .int (iZ (n))]) (rest := []) ⟨hx, hb, hml, hown, hts⟩ (c_seriesAt l dC dI cA cJ H.size ma f g rs_0 ww_0 mo_0 dg_0 pl_0 sl_0 lf_0 tl_0 rw_0 rt_0 cd_0 td_0 mn_0 hf hg (pl_0 (13 * x)) ((pl_0 ((13 * x) + 1)) + ((sl_0 (3 * x)) * (pl_0 (13 * x)))) n (by rw [hA0]; omega) (by rw [hA0, hA1, hA2]; omega) hn) (cwV 3 hts g_Mod_111 rfl rfl rfl (by decide +kernel) ⟨Nat.le_of_ble_eq_true rfl, Nat.le_of_ble_eq_true rfl⟩) (wP_preV hK hP hD [0, 1] rfl [0, 1, 2, 3, 4, 5, 6, 7, 8, 9, 10, 11, 12] (by decide) rfl rfl rfl rfl 0 rfl) rfl rfl hl.1 rfl (lv_room (Nat.le_of_ble_eq_true rfl)) d_Mod_answer_48 ⟨Nat.le_of_ble_eq_true rfl, Nat.le_of_ble_eq_true rfl⟩) hP hD hS hA [0, 1, 2, 3, 4, 5, 6, 7, 8, 9, 10, 11, 12] [] [0, 1, 2, 3, 4, 5, 6, 7, 8, 9, 10, 11, 12] rfl rfl (by decide) (by decide) (by decide) (fun _ => rfl) (fun _ => rfl) (fun rr_1 u H locs hw hP hD hS => ?_)
    obtain ⟨rs_1, ww_1, mo_1, dg_1, pl_1, sl_1, lf_1, tl_1, rw_1, rt_1, cd_1, td_1, mn_1⟩ := u
    obtain ⟨rfl, hcd8⟩ := hw
    dsimp only at hcd8
    have hP : va_P (dC, dI) vC [((ma 0), .inr (5, [.int (iZ (cd_1)), .ref ((ma 1)), .ref ((ma 2)), .ref ((ma 3)), .ref ((ma 4)), .ref ((ma 5)), .int (iZ (td_1)), .int (iZ (mn_1)), .ref ((ma 6)), .ref ((ma 7)), .ref ((ma 8)), .ref ((ma 9)), .ref ((ma 10)), .ref ((ma 11)), .ref ((ma 12))])), ((ma 1), .inl (cA, 3, .inl (aR f))), ((ma 2), .inl (cA, 5, .inl (aR g))), ((ma 3), .inl (cJ, 5, .inr (.inl (aL rs_1)))), ((ma 4), .inl (cJ, 3, .inr (.inl (aL ww_1)))), ((ma 5), .inl (cJ, 5, .inr (.inl (aL mo_1)))), ((ma 6), .inl (cA, 2, .inl (aR dg_1))), ((ma 7), .inl (cJ, 26, .inr (.inl (aL pl_1)))), ((ma 8), .inl (cJ, 6, .inr (.inl (aL sl_1)))), ((ma 9), .inl (cJ, 20, .inr (.inl (aL lf_1)))), ((ma 10), .inl (cJ, 13, .inr (.inl (aL tl_1)))), ((ma 11), .inl (cJ, 41, .inr (.inl (aL rw_1)))), ((ma 12), .inl (cA, 2, .inl (aR rt_1)))] H := hP
    have hD : va_D A [((ma 0), .inr (5, [.int (iZ (cd_1)), .ref ((ma 1)), .ref ((ma 2)), .ref ((ma 3)), .ref ((ma 4)), .ref ((ma 5)), .int (iZ (td_1)), .int (iZ (mn_1)), .ref ((ma 6)), .ref ((ma 7)), .ref ((ma 8)), .ref ((ma 9)), .ref ((ma 10)), .ref ((ma 11)), .ref ((ma 12))])), ((ma 1), .inl (cA, 3, .inl (aR f))), ((ma 2), .inl (cA, 5, .inl (aR g))), ((ma 3), .inl (cJ, 5, .inr (.inl (aL rs_1)))), ((ma 4), .inl (cJ, 3, .inr (.inl (aL ww_1)))), ((ma 5), .inl (cJ, 5, .inr (.inl (aL mo_1)))), ((ma 6), .inl (cA, 2, .inl (aR dg_1))), ((ma 7), .inl (cJ, 26, .inr (.inl (aL pl_1)))), ((ma 8), .inl (cJ, 6, .inr (.inl (aL sl_1)))), ((ma 9), .inl (cJ, 20, .inr (.inl (aL lf_1)))), ((ma 10), .inl (cJ, 13, .inr (.inl (aL tl_1)))), ((ma 11), .inl (cJ, 41, .inr (.inl (aL rw_1)))), ((ma 12), .inl (cA, 2, .inl (aR rt_1)))] := hD
    exact w_iret (post := fun (r9 : Int32) (u : MS) => r9 = iZ (srz f g (md (Y 0)) (md (Y 1 + Y 0 * U 0)) n) ∧ u.2.2.2.2.2.2.2.2.2.2.1 = 0) (wn := fun (u : MS) => mW cA cJ ma f g u) hx hb hr hlocks (rs_1, ww_1, mo_1, dg_1, pl_1, sl_1, lf_1, tl_1, rw_1, rt_1, cd_1, td_1, mn_1) ⟨by rw [hA0, hA1, hA2, Int.mul_comm (U 0)], hcd8.symm.trans hcd9⟩ hP hD hS d_Mod_answer_51
  · exact absurd c_8 (by decide)

set_option maxHeartbeats 4000000 in
set_option maxRecDepth 100000 in
/-- answer, refused -/
theorem c_manswerb (l : Launch) (dC : Nat → ClassId) (dI : Nat → Nat → Nat) (cA cJ : ClassId) (sz : Nat) (ma : Nat → Nat) (f g rs ww mo dg pl sl lf tl rw rt : Int → Int) (cd td mn : Int) (hf : RoW 3 f) (hg : RoW 5 g) (x : Int) (hx32 : -2147483648 ≤ x ∧ x < 2147483648) (n : Int) (hn32 : -2147483648 ≤ n ∧ n < 2147483648) (hbad : ¬ ((0 ≤ x ∧ x < ((anz f g).length : Int)) ∧ (0 ≤ n ∧ n ≤ 40))) : Met l y_Mod_answer w_Mod_answer ({ frames := 5, cells := 0, slots := 0, locals := 124 }) (va_Pc [.ref ((ma 0)), .int (iZ (x)), .int (iZ (n))] (wP (dC, dI) vC [(cA, .int), (cJ, .long)] (mW cA cJ ma f g (rs, ww, mo, dg, pl, sl, lf, tl, rw, rt, cd, td, mn)) sz)) (va_Qi (fun (r9 : Int32) (u : MS) => u.2.2.2.2.2.2.2.2.2.2.1 = 1) (fun (u : MS) t => wB (dC, dI) vC (va_A (mW cA cJ ma f g (rs, ww, mo, dg, pl, sl, lf, tl, rw, rt, cd, td, mn)) sz) (mW cA cJ ma f g u) t) (va_A (mW cA cJ ma f g (rs, ww, mo, dg, pl, sl, lf, tl, rw, rt, cd, td, mn)) sz)) 0 0 (va_A (mW cA cJ ma f g (rs, ww, mo, dg, pl, sl, lf, tl, rw, rt, cd, td, mn)) sz) := by
  refine Met.ofW (cc := b_Mod_answer) (maxL := 5) (ret := (Option.some Jvm.ClassFile.FieldType.int)) (by decide) rfl ?_
  intro p e s m args below meth c s₁ B hml hv
  obtain ⟨rfl, hsz, hP, hK, hD0⟩ := hv
  have hx := B.exec
  have hb := B.bytes
  have hr := B.returns
  have hts : ∀ w ∈ tT, w.before _ s = true := fun w h => atoms_spec (ws := w_Mod_answer) B.pre w (List.mem_cons_of_mem _ h)
  have hown : s.vm.findClass "OrderTwoCasesModel" = some m.cls := findClass_of_methodNamed B.named
  have hlocks := B.notSynchronized
  subst hsz
  have hD := hD0.self (sz := s.heap.size)
  generalize hAe : va_A (mW cA cJ ma f g (rs, ww, mo, dg, pl, sl, lf, tl, rw, rt, cd, td, mn)) s.heap.size = A at hD ⊢
  have hA : ∀ q : Nat, s.heap.size ≤ q → A q := fun q h => by rw [← hAe]; exact Or.inr h
  have hS : va_S A s.heap s.heap [] := va_S.rf
  have hl := lv_entry ([.ref ((ma 0)), .int (iZ (x)), .int (iZ (n))]) (n := 5) (Nat.le_of_ble_eq_true rfl)
  rw [lg_entry_eq]
  generalize (lg_sl ([.ref ((ma 0)), .int (iZ (x)), .int (iZ (n))]) ++ List.replicate (5 - (lg_sl ([.ref ((ma 0)), .int (iZ (x)), .int (iZ (n))])).length) Slot.unset).toArray = ls at hl ⊢
  have hl : lv_has ls 5 [(0, .ref ((ma 0))), (1, .int (iZ (x))), (2, .int (iZ (n)))] := hl
  have hP : va_P (dC, dI) vC [((ma 0), .inr (5, [.int (iZ (cd)), .ref ((ma 1)), .ref ((ma 2)), .ref ((ma 3)), .ref ((ma 4)), .ref ((ma 5)), .int (iZ (td)), .int (iZ (mn)), .ref ((ma 6)), .ref ((ma 7)), .ref ((ma 8)), .ref ((ma 9)), .ref ((ma 10)), .ref ((ma 11)), .ref ((ma 12))])), ((ma 1), .inl (cA, 3, .inl (aR f))), ((ma 2), .inl (cA, 5, .inl (aR g))), ((ma 3), .inl (cJ, 5, .inr (.inl (aL rs)))), ((ma 4), .inl (cJ, 3, .inr (.inl (aL ww)))), ((ma 5), .inl (cJ, 5, .inr (.inl (aL mo)))), ((ma 6), .inl (cA, 2, .inl (aR dg))), ((ma 7), .inl (cJ, 26, .inr (.inl (aL pl)))), ((ma 8), .inl (cJ, 6, .inr (.inl (aL sl)))), ((ma 9), .inl (cJ, 20, .inr (.inl (aL lf)))), ((ma 10), .inl (cJ, 13, .inr (.inl (aL tl)))), ((ma 11), .inl (cJ, 41, .inr (.inl (aL rw)))), ((ma 12), .inl (cA, 2, .inl (aR rt)))] s.heap := hP
  have hD : va_D A [((ma 0), .inr (5, [.int (iZ (cd)), .ref ((ma 1)), .ref ((ma 2)), .ref ((ma 3)), .ref ((ma 4)), .ref ((ma 5)), .int (iZ (td)), .int (iZ (mn)), .ref ((ma 6)), .ref ((ma 7)), .ref ((ma 8)), .ref ((ma 9)), .ref ((ma 10)), .ref ((ma 11)), .ref ((ma 12))])), ((ma 1), .inl (cA, 3, .inl (aR f))), ((ma 2), .inl (cA, 5, .inl (aR g))), ((ma 3), .inl (cJ, 5, .inr (.inl (aL rs)))), ((ma 4), .inl (cJ, 3, .inr (.inl (aL ww)))), ((ma 5), .inl (cJ, 5, .inr (.inl (aL mo)))), ((ma 6), .inl (cA, 2, .inl (aR dg))), ((ma 7), .inl (cJ, 26, .inr (.inl (aL pl)))), ((ma 8), .inl (cJ, 6, .inr (.inl (aL sl)))), ((ma 9), .inl (cJ, 20, .inr (.inl (aL lf)))), ((ma 10), .inl (cJ, 13, .inr (.inl (aL tl)))), ((ma 11), .inl (cJ, 41, .inr (.inl (aL rw)))), ((ma 12), .inl (cA, 2, .inl (aR rt)))] := hD
  refine lv_aload_n hx hb d_Mod_answer_0 rfl (lv_at hl 0 rfl) ?_
  refine lv_iload_n hx hb d_Mod_answer_1 rfl (lv_at hl 1 rfl) ?_
  refine lv_iload_n hx hb d_Mod_answer_2 rfl (lv_at hl 2 rfl) ?_
  refine lv_bipush (v := iZ (40)) hx hb d_Mod_answer_3 (by decide +kernel) ?_
  refine w_calli (wn := fun (u : MS) => [((ma 0), .inr (5, [.int (iZ (u.2.2.2.2.2.2.2.2.2.2.1)), .ref ((ma 1)), .ref ((ma 2)), .ref ((ma 3)), .ref ((ma 4)), .ref ((ma 5)), .int (iZ (u.2.2.2.2.2.2.2.2.2.2.2.1)), .int (iZ (u.2.2.2.2.2.2.2.2.2.2.2.2)), .ref ((ma 6)), .ref ((ma 7)), .ref ((ma 8)), .ref ((ma 9)), .ref ((ma 10)), .ref ((ma 11)), .ref ((ma 12))])), ((ma 1), .inl (cA, 3, .inl (aR f))), ((ma 2), .inl (cA, 5, .inl (aR g))), ((ma 3), .inl (cJ, 5, .inr (.inl (aL u.1)))), ((ma 4), .inl (cJ, 3, .inr (.inl (aL u.2.1)))), ((ma 5), .inl (cJ, 5, .inr (.inl (aL u.2.2.1)))), ((ma 6), .inl (cA, 2, .inl (aR u.2.2.2.1))), ((ma 7), .inl (cJ, 26, .inr (.inl (aL u.2.2.2.2.1)))), ((ma 8), .inl (cJ, 6, .inr (.inl (aL u.2.2.2.2.2.1)))), ((ma 9), .inl (cJ, 20, .inr (.inl (aL u.2.2.2.2.2.2.1)))), ((ma 10), .inl (cJ, 13, .inr (.inl (aL u.2.2.2.2.2.2.2.1)))), ((ma 11), .inl (cJ, 41, .inr (.inl (aL u.2.2.2.2.2.2.2.2.1)))), ((ma 12), .inl (cA, 2, .inl (aR u.2.2.2.2.2.2.2.2.2.1)))]) (wf := fun (u : MS) => [((ma 0), .inr (5, [.int (iZ (u.2.2.2.2.2.2.2.2.2.2.1)), .ref ((ma 1)), .ref ((ma 2)), .ref ((ma 3)), .ref ((ma 4)), .ref ((ma 5)), .int (iZ (u.2.2.2.2.2.2.2.2.2.2.2.1)), .int (iZ (u.2.2.2.2.2.2.2.2.2.2.2.2)), .ref ((ma 6)), .ref ((ma 7)), .ref ((ma 8)), .ref ((ma 9)), .ref ((ma 10)), .ref ((ma 11)), .ref ((ma 12))])), ((ma 1), .inl (cA, 3, .inl (aR f))), ((ma 2), .inl (cA, 5, .inl (aR g))), ((ma 3), .inl (cJ, 5, .inr (.inl (aL u.1)))), ((ma 4), .inl (cJ, 3, .inr (.inl (aL u.2.1)))), ((ma 5), .inl (cJ, 5, .inr (.inl (aL u.2.2.1)))), ((ma 6), .inl (cA, 2, .inl (aR u.2.2.2.1))), ((ma 7), .inl (cJ, 26, .inr (.inl (aL u.2.2.2.2.1)))), ((ma 8), .inl (cJ, 6, .inr (.inl (aL u.2.2.2.2.2.1)))), ((ma 9), .inl (cJ, 20, .inr (.inl (aL u.2.2.2.2.2.2.1)))), ((ma 10), .inl (cJ, 13, .inr (.inl (aL u.2.2.2.2.2.2.2.1)))), ((ma 11), .inl (cJ, 41, .inr (.inl (aL u.2.2.2.2.2.2.2.2.1)))), ((ma 12), .inl (cA, 2, .inl (aR u.2.2.2.2.2.2.2.2.2.1)))]) (wr := []) (va_runV (As := [.int (iZ (x)), .int (iZ (n)), .int (iZ (40))]) (rest := []) ⟨hx, hb, hml, hown, hts⟩ (c_isNot l dC dI cA cJ s.heap.size ma f g rs ww mo dg pl sl lf tl rw rt cd td mn hf hg x n 40 (by omega) (by omega) (by omega) (by omega)) (cwV 3 hts g_Mod_105 rfl rfl rfl (by decide +kernel) ⟨Nat.le_of_ble_eq_true rfl, Nat.le_of_ble_eq_true rfl⟩) (wP_preV hK hP hD [0, 1] rfl [0, 1, 2, 3, 4, 5, 6, 7, 8, 9, 10, 11, 12] (by decide) rfl rfl rfl rfl 0 rfl) rfl rfl hl.1 rfl (lv_room (Nat.le_of_ble_eq_true rfl)) d_Mod_answer_5 ⟨Nat.le_of_ble_eq_true rfl, Nat.le_of_ble_eq_true rfl⟩) hP hD hS hA [0, 1, 2, 3, 4, 5, 6, 7, 8, 9, 10, 11, 12] [] [0, 1, 2, 3, 4, 5, 6, 7, 8, 9, 10, 11, 12] rfl rfl (by decide) (by decide) (by decide) (fun _ => rfl) (fun _ => rfl) (fun rr_0 u H locs hw hP hD hS => ?_)
  obtain ⟨rs_0, ww_0, mo_0, dg_0, pl_0, sl_0, lf_0, tl_0, rw_0, rt_0, cd_0, td_0, mn_0⟩ := u
  obtain ⟨rfl, hcd9⟩ := hw
  dsimp only at hcd9
  have hP : va_P (dC, dI) vC [((ma 0), .inr (5, [.int (iZ (cd_0)), .ref ((ma 1)), .ref ((ma 2)), .ref ((ma 3)), .ref ((ma 4)), .ref ((ma 5)), .int (iZ (td_0)), .int (iZ (mn_0)), .ref ((ma 6)), .ref ((ma 7)), .ref ((ma 8)), .ref ((ma 9)), .ref ((ma 10)), .ref ((ma 11)), .ref ((ma 12))])), ((ma 1), .inl (cA, 3, .inl (aR f))), ((ma 2), .inl (cA, 5, .inl (aR g))), ((ma 3), .inl (cJ, 5, .inr (.inl (aL rs_0)))), ((ma 4), .inl (cJ, 3, .inr (.inl (aL ww_0)))), ((ma 5), .inl (cJ, 5, .inr (.inl (aL mo_0)))), ((ma 6), .inl (cA, 2, .inl (aR dg_0))), ((ma 7), .inl (cJ, 26, .inr (.inl (aL pl_0)))), ((ma 8), .inl (cJ, 6, .inr (.inl (aL sl_0)))), ((ma 9), .inl (cJ, 20, .inr (.inl (aL lf_0)))), ((ma 10), .inl (cJ, 13, .inr (.inl (aL tl_0)))), ((ma 11), .inl (cJ, 41, .inr (.inl (aL rw_0)))), ((ma 12), .inl (cA, 2, .inl (aR rt_0)))] H := hP
  have hD : va_D A [((ma 0), .inr (5, [.int (iZ (cd_0)), .ref ((ma 1)), .ref ((ma 2)), .ref ((ma 3)), .ref ((ma 4)), .ref ((ma 5)), .int (iZ (td_0)), .int (iZ (mn_0)), .ref ((ma 6)), .ref ((ma 7)), .ref ((ma 8)), .ref ((ma 9)), .ref ((ma 10)), .ref ((ma 11)), .ref ((ma 12))])), ((ma 1), .inl (cA, 3, .inl (aR f))), ((ma 2), .inl (cA, 5, .inl (aR g))), ((ma 3), .inl (cJ, 5, .inr (.inl (aL rs_0)))), ((ma 4), .inl (cJ, 3, .inr (.inl (aL ww_0)))), ((ma 5), .inl (cJ, 5, .inr (.inl (aL mo_0)))), ((ma 6), .inl (cA, 2, .inl (aR dg_0))), ((ma 7), .inl (cJ, 26, .inr (.inl (aL pl_0)))), ((ma 8), .inl (cJ, 6, .inr (.inl (aL sl_0)))), ((ma 9), .inl (cJ, 20, .inr (.inl (aL lf_0)))), ((ma 10), .inl (cJ, 13, .inr (.inl (aL tl_0)))), ((ma 11), .inl (cJ, 41, .inr (.inl (aL rw_0)))), ((ma 12), .inl (cA, 2, .inl (aR rt_0)))] := hD
  refine z_if_ne (tgt := 13) hx hb d_Mod_answer_8 (by decide) (by decide) (fun c_8 => ?_) (fun c_8 => ?_)
  · exact absurd rfl c_8
  · refine lv_iconst (v := iZ (0)) hx hb d_Mod_answer_11 rfl ?_
    exact w_iret (post := fun (_ : Int32) (u : MS) => u.2.2.2.2.2.2.2.2.2.2.1 = 1) (wn := fun (u : MS) => mW cA cJ ma f g u) hx hb hr hlocks (rs_0, ww_0, mo_0, dg_0, pl_0, sl_0, lf_0, tl_0, rw_0, rt_0, cd_0, td_0, mn_0) hcd9 hP hD hS d_Mod_answer_12
