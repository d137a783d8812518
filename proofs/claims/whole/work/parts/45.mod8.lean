set_option maxHeartbeats 4000000 in
set_option maxRecDepth 100000 in
/-- keep() -/
theorem c_keep (l : Launch) (dC : Nat → ClassId) (dI : Nat → Nat → Nat) (cA cJ : ClassId) (sz : Nat) (ma : Nat → Nat) (f g rs ww mo dg pl sl lf tl rw rt : Int → Int) (cd td mn : Int) (hf : RoW 3 f) (ht13 : RoW 13 tl) (hw3 : RoW 3 ww) (hmn : 0 ≤ mn ∧ mn ≤ 1) : Met l y_Mod_keep w_Mod_keep ({ frames := 1, cells := 0, slots := 0, locals := 26 }) (va_Pc [.ref ((ma 0))] (wP (dC, dI) vC [(cA, .int), (cJ, .long)] (mW cA cJ ma f g (rs, ww, mo, dg, pl, sl, lf, tl, rw, rt, cd, td, mn)) sz)) (va_Qv (fun u : MS => blk 13 (13 * mn) tl pl = u.2.2.2.2.1 ∧ sT dg mn (lastz tl 13) = u.2.2.2.1 ∧ blk 3 (3 * mn) (tsz ww f) sl = u.2.2.2.2.2.1 ∧ mn + 1 = u.2.2.2.2.2.2.2.2.2.2.2.2 ∧ rs = u.1 ∧ ww = u.2.1 ∧ mo = u.2.2.1 ∧ lf = u.2.2.2.2.2.2.1 ∧ tl = u.2.2.2.2.2.2.2.1 ∧ rw = u.2.2.2.2.2.2.2.2.1 ∧ rt = u.2.2.2.2.2.2.2.2.2.1 ∧ cd = u.2.2.2.2.2.2.2.2.2.2.1 ∧ td = u.2.2.2.2.2.2.2.2.2.2.2.1) (fun (u : MS) t => wB (dC, dI) vC (va_A (mW cA cJ ma f g (rs, ww, mo, dg, pl, sl, lf, tl, rw, rt, cd, td, mn)) sz) (mW cA cJ ma f g u) t) (va_A (mW cA cJ ma f g (rs, ww, mo, dg, pl, sl, lf, tl, rw, rt, cd, td, mn)) sz)) 0 0 (va_A (mW cA cJ ma f g (rs, ww, mo, dg, pl, sl, lf, tl, rw, rt, cd, td, mn)) sz) := by
  refine Met.ofW (cc := b_Mod_keep) (maxL := 5) (ret := (Option.none : Option Jvm.ClassFile.FieldType)) (by decide) rfl ?_
  intro p e s m args below meth c s₁ B hml hv
  obtain ⟨rfl, hsz, hP, hK, hD0⟩ := hv
  have hx := B.exec
  have hb := B.bytes
  have hr := B.returns
  have hts : ∀ w ∈ tT, w.before _ s = true := fun w h => atoms_spec (ws := w_Mod_keep) B.pre w (List.mem_cons_of_mem _ h)
  have hown : s.vm.findClass "OrderTwoCasesModel" = some m.cls := findClass_of_methodNamed B.named
  have hlocks := B.notSynchronized
  subst hsz
  have hD := hD0.self (sz := s.heap.size)
  generalize hAe : va_A (mW cA cJ ma f g (rs, ww, mo, dg, pl, sl, lf, tl, rw, rt, cd, td, mn)) s.heap.size = A at hD ⊢
  have hA : ∀ q : Nat, s.heap.size ≤ q → A q := fun q h => by rw [← hAe]; exact Or.inr h
  have hS : va_S A s.heap s.heap [] := va_S.rf
  have hl := lv_entry ([.ref ((ma 0))]) (n := 5) (Nat.le_of_ble_eq_true rfl)
  rw [lg_entry_eq]
  generalize (lg_sl ([.ref ((ma 0))]) ++ List.replicate (5 - (lg_sl ([.ref ((ma 0))])).length) Slot.unset).toArray = ls at hl ⊢
  have hl : lv_has ls 5 [(0, .ref ((ma 0)))] := hl
  have hP : va_P (dC, dI) vC [((ma 0), .inr (5, [.int (iZ (cd)), .ref ((ma 1)), .ref ((ma 2)), .ref ((ma 3)), .ref ((ma 4)), .ref ((ma 5)), .int (iZ (td)), .int (iZ (mn)), .ref ((ma 6)), .ref ((ma 7)), .ref ((ma 8)), .ref ((ma 9)), .ref ((ma 10)), .ref ((ma 11)), .ref ((ma 12))])), ((ma 1), .inl (cA, 3, .inl (aR f))), ((ma 2), .inl (cA, 5, .inl (aR g))), ((ma 3), .inl (cJ, 5, .inr (.inl (aL rs)))), ((ma 4), .inl (cJ, 3, .inr (.inl (aL ww)))), ((ma 5), .inl (cJ, 5, .inr (.inl (aL mo)))), ((ma 6), .inl (cA, 2, .inl (aR dg))), ((ma 7), .inl (cJ, 26, .inr (.inl (aL pl)))), ((ma 8), .inl (cJ, 6, .inr (.inl (aL sl)))), ((ma 9), .inl (cJ, 20, .inr (.inl (aL lf)))), ((ma 10), .inl (cJ, 13, .inr (.inl (aL tl)))), ((ma 11), .inl (cJ, 41, .inr (.inl (aL rw)))), ((ma 12), .inl (cA, 2, .inl (aR rt)))] s.heap := hP
  have hD : va_D A [((ma 0), .inr (5, [.int (iZ (cd)), .ref ((ma 1)), .ref ((ma 2)), .ref ((ma 3)), .ref ((ma 4)), .ref ((ma 5)), .int (iZ (td)), .int (iZ (mn)), .ref ((ma 6)), .ref ((ma 7)), .ref ((ma 8)), .ref ((ma 9)), .ref ((ma 10)), .ref ((ma 11)), .ref ((ma 12))])), ((ma 1), .inl (cA, 3, .inl (aR f))), ((ma 2), .inl (cA, 5, .inl (aR g))), ((ma 3), .inl (cJ, 5, .inr (.inl (aL rs)))), ((ma 4), .inl (cJ, 3, .inr (.inl (aL ww)))), ((ma 5), .inl (cJ, 5, .inr (.inl (aL mo)))), ((ma 6), .inl (cA, 2, .inl (aR dg))), ((ma 7), .inl (cJ, 26, .inr (.inl (aL pl)))), ((ma 8), .inl (cJ, 6, .inr (.inl (aL sl)))), ((ma 9), .inl (cJ, 20, .inr (.inl (aL lf)))), ((ma 10), .inl (cJ, 13, .inr (.inl (aL tl)))), ((ma 11), .inl (cJ, 41, .inr (.inl (aL rw)))), ((ma 12), .inl (cA, 2, .inl (aR rt)))] := hD
  refine lv_iconst (v := iZ (0)) hx hb d_Mod_keep_0 rfl ?_
  refine lv_istore_n (lv' := [(1, .int (iZ (0))), (0, .ref ((ma 0)))]) hx hb d_Mod_keep_1 rfl hl (by decide) rfl (fun ls hl => ?_)
  refine lv_iconst (v := iZ (0)) hx hb d_Mod_keep_2 rfl ?_
  refine lv_istore_n (lv' := [(2, .int (iZ (0))), (1, .int (iZ (0))), (0, .ref ((ma 0)))]) hx hb d_Mod_keep_3 rfl hl (by decide) rfl (fun ls hl => ?_)
  have loop_4 : ∀ (m_4 : Nat) (k : Int) (d : Int) (hk : 0 ≤ k ∧ k ≤ 13) (hd9 : d = lastz tl k.toNat) (hmeas : 13 - k < (m_4 : Int)) (H : Heap) (locs : List Loc) (hP : va_P (dC, dI) vC [((ma 0), .inr (5, [.int (iZ (cd)), .ref ((ma 1)), .ref ((ma 2)), .ref ((ma 3)), .ref ((ma 4)), .ref ((ma 5)), .int (iZ (td)), .int (iZ (mn)), .ref ((ma 6)), .ref ((ma 7)), .ref ((ma 8)), .ref ((ma 9)), .ref ((ma 10)), .ref ((ma 11)), .ref ((ma 12))])), ((ma 1), .inl (cA, 3, .inl (aR f))), ((ma 2), .inl (cA, 5, .inl (aR g))), ((ma 3), .inl (cJ, 5, .inr (.inl (aL rs)))), ((ma 4), .inl (cJ, 3, .inr (.inl (aL ww)))), ((ma 5), .inl (cJ, 5, .inr (.inl (aL mo)))), ((ma 6), .inl (cA, 2, .inl (aR dg))), ((ma 7), .inl (cJ, 26, .inr (.inl (aL (blkP (13 * mn) tl pl k))))), ((ma 8), .inl (cJ, 6, .inr (.inl (aL sl)))), ((ma 9), .inl (cJ, 20, .inr (.inl (aL lf)))), ((ma 10), .inl (cJ, 13, .inr (.inl (aL tl)))), ((ma 11), .inl (cJ, 41, .inr (.inl (aL rw)))), ((ma 12), .inl (cA, 2, .inl (aR rt)))] H) (hD : va_D A [((ma 0), .inr (5, [.int (iZ (cd)), .ref ((ma 1)), .ref ((ma 2)), .ref ((ma 3)), .ref ((ma 4)), .ref ((ma 5)), .int (iZ (td)), .int (iZ (mn)), .ref ((ma 6)), .ref ((ma 7)), .ref ((ma 8)), .ref ((ma 9)), .ref ((ma 10)), .ref ((ma 11)), .ref ((ma 12))])), ((ma 1), .inl (cA, 3, .inl (aR f))), ((ma 2), .inl (cA, 5, .inl (aR g))), ((ma 3), .inl (cJ, 5, .inr (.inl (aL rs)))), ((ma 4), .inl (cJ, 3, .inr (.inl (aL ww)))), ((ma 5), .inl (cJ, 5, .inr (.inl (aL mo)))), ((ma 6), .inl (cA, 2, .inl (aR dg))), ((ma 7), .inl (cJ, 26, .inr (.inl (aL (blkP (13 * mn) tl pl k))))), ((ma 8), .inl (cJ, 6, .inr (.inl (aL sl)))), ((ma 9), .inl (cJ, 20, .inr (.inl (aL lf)))), ((ma 10), .inl (cJ, 13, .inr (.inl (aL tl)))), ((ma 11), .inl (cJ, 41, .inr (.inl (aL rw)))), ((ma 12), .inl (cA, 2, .inl (aR rt)))]) (hS : va_S A s.heap H locs) (ls : Array Slot) (hl : lv_has ls 5 [(2, .int (iZ (k))), (1, .int (iZ (d))), (0, .ref ((ma 0)))]), W p l e ({ frames := 1, cells := 0, slots := 0, locals := 26 } : Room) s m ([.ref ((ma 0))] : List Value).toArray below meth c H locs 0 0 (MQ below (va_Qv (fun u : MS => blk 13 (13 * mn) tl pl = u.2.2.2.2.1 ∧ sT dg mn (lastz tl 13) = u.2.2.2.1 ∧ blk 3 (3 * mn) (tsz ww f) sl = u.2.2.2.2.2.1 ∧ mn + 1 = u.2.2.2.2.2.2.2.2.2.2.2.2 ∧ rs = u.1 ∧ ww = u.2.1 ∧ mo = u.2.2.1 ∧ lf = u.2.2.2.2.2.2.1 ∧ tl = u.2.2.2.2.2.2.2.1 ∧ rw = u.2.2.2.2.2.2.2.2.1 ∧ rt = u.2.2.2.2.2.2.2.2.2.1 ∧ cd = u.2.2.2.2.2.2.2.2.2.2.1 ∧ td = u.2.2.2.2.2.2.2.2.2.2.2.1) (fun (u : MS) t => wB (dC, dI) vC A (mW cA cJ ma f g u) t) A) ([.ref ((ma 0))] : List Value).toArray s 0 0 A) (F0 m 4 ls []) := by
    intro m_4
    induction m_4 with
    | zero =>
      intro k d hk hd9 hmeas
      exfalso; omega
    | succ m_4 ih_4 =>
      intro k d hk hd9 hmeas H locs hP hD hS ls hl
      refine lv_iload_n hx hb d_Mod_keep_4 rfl (lv_at hl 0 rfl) ?_
      refine lv_bipush (v := iZ (12)) hx hb d_Mod_keep_5 (by decide +kernel) ?_
      refine z_icmp_gt (tgt := 49) hx hb d_Mod_keep_7 (by decide) (by omega) (by omega) (fun c_7 => ?_) (fun c_7 => ?_)
      · have hz : k = ((13 : Nat) : Int) := by omega
        subst hz
        rw [blkP_n] at hP hD
        have hd8 : d = lastz tl 13 := hd9
        have hP : va_P (dC, dI) vC [((ma 0), .inr (5, [.int (iZ (cd)), .ref ((ma 1)), .ref ((ma 2)), .ref ((ma 3)), .ref ((ma 4)), .ref ((ma 5)), .int (iZ (td)), .int (iZ (mn)), .ref ((ma 6)), .ref ((ma 7)), .ref ((ma 8)), .ref ((ma 9)), .ref ((ma 10)), .ref ((ma 11)), .ref ((ma 12))])), ((ma 1), .inl (cA, 3, .inl (aR f))), ((ma 2), .inl (cA, 5, .inl (aR g))), ((ma 3), .inl (cJ, 5, .inr (.inl (aL rs)))), ((ma 4), .inl (cJ, 3, .inr (.inl (aL ww)))), ((ma 5), .inl (cJ, 5, .inr (.inl (aL mo)))), ((ma 6), .inl (cA, 2, .inl (aR dg))), ((ma 7), .inl (cJ, 26, .inr (.inl (aL (blk 13 (13 * mn) tl pl))))), ((ma 8), .inl (cJ, 6, .inr (.inl (aL sl)))), ((ma 9), .inl (cJ, 20, .inr (.inl (aL lf)))), ((ma 10), .inl (cJ, 13, .inr (.inl (aL tl)))), ((ma 11), .inl (cJ, 41, .inr (.inl (aL rw)))), ((ma 12), .inl (cA, 2, .inl (aR rt)))] H := hP
        have hD : va_D A [((ma 0), .inr (5, [.int (iZ (cd)), .ref ((ma 1)), .ref ((ma 2)), .ref ((ma 3)), .ref ((ma 4)), .ref ((ma 5)), .int (iZ (td)), .int (iZ (mn)), .ref ((ma 6)), .ref ((ma 7)), .ref ((ma 8)), .ref ((ma 9)), .ref ((ma 10)), .ref ((ma 11)), .ref ((ma 12))])), ((ma 1), .inl (cA, 3, .inl (aR f))), ((ma 2), .inl (cA, 5, .inl (aR g))), ((ma 3), .inl (cJ, 5, .inr (.inl (aL rs)))), ((ma 4), .inl (cJ, 3, .inr (.inl (aL ww)))), ((ma 5), .inl (cJ, 5, .inr (.inl (aL mo)))), ((ma 6), .inl (cA, 2, .inl (aR dg))), ((ma 7), .inl (cJ, 26, .inr (.inl (aL (blk 13 (13 * mn) tl pl))))), ((ma 8), .inl (cJ, 6, .inr (.inl (aL sl)))), ((ma 9), .inl (cJ, 20, .inr (.inl (aL lf)))), ((ma 10), .inl (cJ, 13, .inr (.inl (aL tl)))), ((ma 11), .inl (cJ, 41, .inr (.inl (aL rw)))), ((ma 12), .inl (cA, 2, .inl (aR rt)))] := hD
        refine lv_aload_n hx hb d_Mod_keep_49 rfl (lv_at hl 2 rfl) ?_
        refine va_get (D := (dC, dI)) (ci := 5) (v := .ref ((ma 6))) (C := "OrderTwoCasesModel") (T := F_Mod) (N := 15) hx hb hts la_Mod hown hK hP 0 rfl rfl 8 (by decide) (hts _ k_472) (fun _ h9 => h9) rfl d_Mod_keep_50 ?_
        refine lv_aload_n hx hb d_Mod_keep_53 rfl (lv_at hl 2 rfl) ?_
        refine va_get (D := (dC, dI)) (ci := 5) (v := .int (iZ (mn))) (C := "OrderTwoCasesModel") (T := F_Mod) (N := 15) hx hb hts la_Mod hown hK hP 0 rfl rfl 7 (by decide) (hts _ k_471) (fun _ h9 => h9) rfl d_Mod_keep_54 ?_
        refine lv_iload_n hx hb d_Mod_keep_57 rfl (lv_at hl 1 rfl) ?_
        refine z_iast (wf := [((ma 0), .inr (5, [.int (iZ (cd)), .ref ((ma 1)), .ref ((ma 2)), .ref ((ma 3)), .ref ((ma 4)), .ref ((ma 5)), .int (iZ (td)), .int (iZ (mn)), .ref ((ma 6)), .ref ((ma 7)), .ref ((ma 8)), .ref ((ma 9)), .ref ((ma 10)), .ref ((ma 11)), .ref ((ma 12))])), ((ma 1), .inl (cA, 3, .inl (aR f))), ((ma 2), .inl (cA, 5, .inl (aR g))), ((ma 3), .inl (cJ, 5, .inr (.inl (aL rs)))), ((ma 4), .inl (cJ, 3, .inr (.inl (aL ww)))), ((ma 5), .inl (cJ, 5, .inr (.inl (aL mo)))), ((ma 6), .inl (cA, 2, .inl (aR (sT dg mn d)))), ((ma 7), .inl (cJ, 26, .inr (.inl (aL (blk 13 (13 * mn) tl pl))))), ((ma 8), .inl (cJ, 6, .inr (.inl (aL sl)))), ((ma 9), .inl (cJ, 20, .inr (.inl (aL lf)))), ((ma 10), .inl (cJ, 13, .inr (.inl (aL tl)))), ((ma 11), .inl (cJ, 41, .inr (.inl (aL rw)))), ((ma 12), .inl (cA, 2, .inl (aR rt)))]) hx hb hK hP hD hS 6 0 rfl rfl (by omega) (by omega) (by decide) d_Mod_keep_58 rfl (fun H locs hP hD hS => ?_)
        rw [hd8] at hP hD
        refine lv_ldc2 (v := lZ (2)) hx hb hown (show (Jvm.Cond.constantLong "OrderTwoCasesModel" 57 (lZ (2))).before _ s = true from hts _ k_522) d_Mod_keep_59 ?_
        refine w_rdl (va_runS (As := [.long (lZ (2))]) (rest := []) ⟨hx, hb, hml, hown, hts⟩ (c_minverse l 2 (by decide)) (va_cwS 1 hts g_Mod_68 rfl rfl rfl (by decide +kernel) ⟨Nat.le_of_ble_eq_true rfl, Nat.le_of_ble_eq_true rfl⟩) preEq rfl rfl hl.1 rfl (lv_room (Nat.le_of_ble_eq_true rfl)) d_Mod_keep_62 ⟨Nat.le_of_ble_eq_true rfl, Nat.le_of_ble_eq_true rfl⟩) ?_
        rw [iv_2]
        refine lv_lstore_n (lv' := [(2, .long (lZ (16002))), (1, .int (iZ (d))), (0, .ref ((ma 0)))]) hx hb d_Mod_keep_65 rfl hl (by decide) rfl (fun ls hl => ?_)
        refine lv_iconst (v := iZ (0)) hx hb d_Mod_keep_66 rfl ?_
        refine lv_istore (lv' := [(4, .int (iZ (0))), (2, .long (lZ (16002))), (1, .int (iZ (d))), (0, .ref ((ma 0)))]) hx hb d_Mod_keep_67 hl (by decide) rfl (fun ls hl => ?_)
        have loop_69 : ∀ (m_69 : Nat) (i : Int) (hi : 0 ≤ i ∧ i ≤ 3) (hmeas : 3 - i < (m_69 : Int)) (H : Heap) (locs : List Loc) (hP : va_P (dC, dI) vC [((ma 0), .inr (5, [.int (iZ (cd)), .ref ((ma 1)), .ref ((ma 2)), .ref ((ma 3)), .ref ((ma 4)), .ref ((ma 5)), .int (iZ (td)), .int (iZ (mn)), .ref ((ma 6)), .ref ((ma 7)), .ref ((ma 8)), .ref ((ma 9)), .ref ((ma 10)), .ref ((ma 11)), .ref ((ma 12))])), ((ma 1), .inl (cA, 3, .inl (aR f))), ((ma 2), .inl (cA, 5, .inl (aR g))), ((ma 3), .inl (cJ, 5, .inr (.inl (aL rs)))), ((ma 4), .inl (cJ, 3, .inr (.inl (aL ww)))), ((ma 5), .inl (cJ, 5, .inr (.inl (aL mo)))), ((ma 6), .inl (cA, 2, .inl (aR (sT dg mn (lastz tl 13))))), ((ma 7), .inl (cJ, 26, .inr (.inl (aL (blk 13 (13 * mn) tl pl))))), ((ma 8), .inl (cJ, 6, .inr (.inl (aL (blkP (3 * mn) (tsz ww f) sl i))))), ((ma 9), .inl (cJ, 20, .inr (.inl (aL lf)))), ((ma 10), .inl (cJ, 13, .inr (.inl (aL tl)))), ((ma 11), .inl (cJ, 41, .inr (.inl (aL rw)))), ((ma 12), .inl (cA, 2, .inl (aR rt)))] H) (hD : va_D A [((ma 0), .inr (5, [.int (iZ (cd)), .ref ((ma 1)), .ref ((ma 2)), .ref ((ma 3)), .ref ((ma 4)), .ref ((ma 5)), .int (iZ (td)), .int (iZ (mn)), .ref ((ma 6)), .ref ((ma 7)), .ref ((ma 8)), .ref ((ma 9)), .ref ((ma 10)), .ref ((ma 11)), .ref ((ma 12))])), ((ma 1), .inl (cA, 3, .inl (aR f))), ((ma 2), .inl (cA, 5, .inl (aR g))), ((ma 3), .inl (cJ, 5, .inr (.inl (aL rs)))), ((ma 4), .inl (cJ, 3, .inr (.inl (aL ww)))), ((ma 5), .inl (cJ, 5, .inr (.inl (aL mo)))), ((ma 6), .inl (cA, 2, .inl (aR (sT dg mn (lastz tl 13))))), ((ma 7), .inl (cJ, 26, .inr (.inl (aL (blk 13 (13 * mn) tl pl))))), ((ma 8), .inl (cJ, 6, .inr (.inl (aL (blkP (3 * mn) (tsz ww f) sl i))))), ((ma 9), .inl (cJ, 20, .inr (.inl (aL lf)))), ((ma 10), .inl (cJ, 13, .inr (.inl (aL tl)))), ((ma 11), .inl (cJ, 41, .inr (.inl (aL rw)))), ((ma 12), .inl (cA, 2, .inl (aR rt)))]) (hS : va_S A s.heap H locs) (ls : Array Slot) (hl : lv_has ls 5 [(4, .int (iZ (i))), (2, .long (lZ (16002))), (1, .int (iZ (d))), (0, .ref ((ma 0)))]), W p l e ({ frames := 1, cells := 0, slots := 0, locals := 26 } : Room) s m ([.ref ((ma 0))] : List Value).toArray below meth c H locs 0 0 (MQ below (va_Qv (fun u : MS => blk 13 (13 * mn) tl pl = u.2.2.2.2.1 ∧ sT dg mn (lastz tl 13) = u.2.2.2.1 ∧ blk 3 (3 * mn) (tsz ww f) sl = u.2.2.2.2.2.1 ∧ mn + 1 = u.2.2.2.2.2.2.2.2.2.2.2.2 ∧ rs = u.1 ∧ ww = u.2.1 ∧ mo = u.2.2.1 ∧ lf = u.2.2.2.2.2.2.1 ∧ tl = u.2.2.2.2.2.2.2.1 ∧ rw = u.2.2.2.2.2.2.2.2.1 ∧ rt = u.2.2.2.2.2.2.2.2.2.1 ∧ cd = u.2.2.2.2.2.2.2.2.2.2.1 ∧ td = u.2.2.2.2.2.2.2.2.2.2.2.1) (fun (u : MS) t => wB (dC, dI) vC A (mW cA cJ ma f g u) t) A) ([.ref ((ma 0))] : List Value).toArray s 0 0 A) (F0 m 69 ls []) := by
          intro m_69
          induction m_69 with
          | zero =>
            intro i hi hmeas
            exfalso; omega
          | succ m_69 ih_69 =>
            intro i hi hmeas H locs hP hD hS ls hl
            refine lv_iload hx hb d_Mod_keep_69 (lv_at hl 0 rfl) ?_
            refine lv_iconst (v := iZ (3)) hx hb d_Mod_keep_71 rfl ?_
            refine z_icmp_ge (tgt := 116) hx hb d_Mod_keep_72 (by decide) (by omega) (by omega) (fun c_72 => ?_) (fun c_72 => ?_)
            · have hz : i = ((3 : Nat) : Int) := by omega
              subst hz
              rw [blkP_n] at hP hD
              have hP : va_P (dC, dI) vC [((ma 0), .inr (5, [.int (iZ (cd)), .ref ((ma 1)), .ref ((ma 2)), .ref ((ma 3)), .ref ((ma 4)), .ref ((ma 5)), .int (iZ (td)), .int (iZ (mn)), .ref ((ma 6)), .ref ((ma 7)), .ref ((ma 8)), .ref ((ma 9)), .ref ((ma 10)), .ref ((ma 11)), .ref ((ma 12))])), ((ma 1), .inl (cA, 3, .inl (aR f))), ((ma 2), .inl (cA, 5, .inl (aR g))), ((ma 3), .inl (cJ, 5, .inr (.inl (aL rs)))), ((ma 4), .inl (cJ, 3, .inr (.inl (aL ww)))), ((ma 5), .inl (cJ, 5, .inr (.inl (aL mo)))), ((ma 6), .inl (cA, 2, .inl (aR (sT dg mn (lastz tl 13))))), ((ma 7), .inl (cJ, 26, .inr (.inl (aL (blk 13 (13 * mn) tl pl))))), ((ma 8), .inl (cJ, 6, .inr (.inl (aL (blk 3 (3 * mn) (tsz ww f) sl))))), ((ma 9), .inl (cJ, 20, .inr (.inl (aL lf)))), ((ma 10), .inl (cJ, 13, .inr (.inl (aL tl)))), ((ma 11), .inl (cJ, 41, .inr (.inl (aL rw)))), ((ma 12), .inl (cA, 2, .inl (aR rt)))] H := hP
              have hD : va_D A [((ma 0), .inr (5, [.int (iZ (cd)), .ref ((ma 1)), .ref ((ma 2)), .ref ((ma 3)), .ref ((ma 4)), .ref ((ma 5)), .int (iZ (td)), .int (iZ (mn)), .ref ((ma 6)), .ref ((ma 7)), .ref ((ma 8)), .ref ((ma 9)), .ref ((ma 10)), .ref ((ma 11)), .ref ((ma 12))])), ((ma 1), .inl (cA, 3, .inl (aR f))), ((ma 2), .inl (cA, 5, .inl (aR g))), ((ma 3), .inl (cJ, 5, .inr (.inl (aL rs)))), ((ma 4), .inl (cJ, 3, .inr (.inl (aL ww)))), ((ma 5), .inl (cJ, 5, .inr (.inl (aL mo)))), ((ma 6), .inl (cA, 2, .inl (aR (sT dg mn (lastz tl 13))))), ((ma 7), .inl (cJ, 26, .inr (.inl (aL (blk 13 (13 * mn) tl pl))))), ((ma 8), .inl (cJ, 6, .inr (.inl (aL (blk 3 (3 * mn) (tsz ww f) sl))))), ((ma 9), .inl (cJ, 20, .inr (.inl (aL lf)))), ((ma 10), .inl (cJ, 13, .inr (.inl (aL tl)))), ((ma 11), .inl (cJ, 41, .inr (.inl (aL rw)))), ((ma 12), .inl (cA, 2, .inl (aR rt)))] := hD
              refine lv_aload_n hx hb d_Mod_keep_116 rfl (lv_at hl 3 rfl) ?_
              refine lv_dup hx hb d_Mod_keep_117 rfl ?_
              refine va_get (D := (dC, dI)) (ci := 5) (v := .int (iZ (mn))) (C := "OrderTwoCasesModel") (T := F_Mod) (N := 15) hx hb hts la_Mod hown hK hP 0 rfl rfl 7 (by decide) (hts _ k_471) (fun _ h9 => h9) rfl d_Mod_keep_118 ?_
              refine lv_iconst (v := iZ (1)) hx hb d_Mod_keep_121 rfl ?_
              refine z_iadd hx hb d_Mod_keep_122 ?_
              refine va_put (D := (dC, dI)) (ci := 5) (v := .int (iZ (mn + 1))) (ty := .int) (C := "OrderTwoCasesModel") (T := F_Mod) (N := 15) hx hb hts la_Mod t_Mod tok_Mod nm_Mod hown hK hP hD hS 0 rfl rfl 7 (by decide) (hts _ k_471) (fun _ h9 => h9) rfl (by decide +kernel) rfl rfl (Nat.le_of_ble_eq_true rfl) d_Mod_keep_123 (fun H locs hP hD hS => ?_)
              have hP : va_P (dC, dI) vC [((ma 0), .inr (5, [.int (iZ (cd)), .ref ((ma 1)), .ref ((ma 2)), .ref ((ma 3)), .ref ((ma 4)), .ref ((ma 5)), .int (iZ (td)), .int (iZ (mn + 1)), .ref ((ma 6)), .ref ((ma 7)), .ref ((ma 8)), .ref ((ma 9)), .ref ((ma 10)), .ref ((ma 11)), .ref ((ma 12))])), ((ma 1), .inl (cA, 3, .inl (aR f))), ((ma 2), .inl (cA, 5, .inl (aR g))), ((ma 3), .inl (cJ, 5, .inr (.inl (aL rs)))), ((ma 4), .inl (cJ, 3, .inr (.inl (aL ww)))), ((ma 5), .inl (cJ, 5, .inr (.inl (aL mo)))), ((ma 6), .inl (cA, 2, .inl (aR (sT dg mn (lastz tl 13))))), ((ma 7), .inl (cJ, 26, .inr (.inl (aL (blk 13 (13 * mn) tl pl))))), ((ma 8), .inl (cJ, 6, .inr (.inl (aL (blk 3 (3 * mn) (tsz ww f) sl))))), ((ma 9), .inl (cJ, 20, .inr (.inl (aL lf)))), ((ma 10), .inl (cJ, 13, .inr (.inl (aL tl)))), ((ma 11), .inl (cJ, 41, .inr (.inl (aL rw)))), ((ma 12), .inl (cA, 2, .inl (aR rt)))] H := hP
              have hD : va_D A [((ma 0), .inr (5, [.int (iZ (cd)), .ref ((ma 1)), .ref ((ma 2)), .ref ((ma 3)), .ref ((ma 4)), .ref ((ma 5)), .int (iZ (td)), .int (iZ (mn + 1)), .ref ((ma 6)), .ref ((ma 7)), .ref ((ma 8)), .ref ((ma 9)), .ref ((ma 10)), .ref ((ma 11)), .ref ((ma 12))])), ((ma 1), .inl (cA, 3, .inl (aR f))), ((ma 2), .inl (cA, 5, .inl (aR g))), ((ma 3), .inl (cJ, 5, .inr (.inl (aL rs)))), ((ma 4), .inl (cJ, 3, .inr (.inl (aL ww)))), ((ma 5), .inl (cJ, 5, .inr (.inl (aL mo)))), ((ma 6), .inl (cA, 2, .inl (aR (sT dg mn (lastz tl 13))))), ((ma 7), .inl (cJ, 26, .inr (.inl (aL (blk 13 (13 * mn) tl pl))))), ((ma 8), .inl (cJ, 6, .inr (.inl (aL (blk 3 (3 * mn) (tsz ww f) sl))))), ((ma 9), .inl (cJ, 20, .inr (.inl (aL lf)))), ((ma 10), .inl (cJ, 13, .inr (.inl (aL tl)))), ((ma 11), .inl (cJ, 41, .inr (.inl (aL rw)))), ((ma 12), .inl (cA, 2, .inl (aR rt)))] := hD
              exact w_vret (post := fun (u : MS) => blk 13 (13 * mn) tl pl = u.2.2.2.2.1 ∧ sT dg mn (lastz tl 13) = u.2.2.2.1 ∧ blk 3 (3 * mn) (tsz ww f) sl = u.2.2.2.2.2.1 ∧ mn + 1 = u.2.2.2.2.2.2.2.2.2.2.2.2 ∧ rs = u.1 ∧ ww = u.2.1 ∧ mo = u.2.2.1 ∧ lf = u.2.2.2.2.2.2.1 ∧ tl = u.2.2.2.2.2.2.2.1 ∧ rw = u.2.2.2.2.2.2.2.2.1 ∧ rt = u.2.2.2.2.2.2.2.2.2.1 ∧ cd = u.2.2.2.2.2.2.2.2.2.2.1 ∧ td = u.2.2.2.2.2.2.2.2.2.2.2.1) (wn := fun (u : MS) => mW cA cJ ma f g u) hx hb hr hlocks (rs, ww, mo, sT dg mn (lastz tl 13), blk 13 (13 * mn) tl pl, blk 3 (3 * mn) (tsz ww f) sl, lf, tl, rw, rt, cd, td, mn + 1) ⟨rfl, rfl, rfl, rfl, rfl, rfl, rfl, rfl, rfl, rfl, rfl, rfl, rfl⟩ hP hD hS d_Mod_keep_126
            · refine lv_aload_n hx hb d_Mod_keep_75 rfl (lv_at hl 3 rfl) ?_
              refine va_get (D := (dC, dI)) (ci := 5) (v := .ref ((ma 8))) (C := "OrderTwoCasesModel") (T := F_Mod) (N := 15) hx hb hts la_Mod hown hK hP 0 rfl rfl 10 (by decide) (hts _ k_474) (fun _ h9 => h9) rfl d_Mod_keep_76 ?_
              refine lv_iconst (v := iZ (3)) hx hb d_Mod_keep_79 rfl ?_
              refine lv_aload_n hx hb d_Mod_keep_80 rfl (lv_at hl 3 rfl) ?_
              refine va_get (D := (dC, dI)) (ci := 5) (v := .int (iZ (mn))) (C := "OrderTwoCasesModel") (T := F_Mod) (N := 15) hx hb hts la_Mod hown hK hP 0 rfl rfl 7 (by decide) (hts _ k_471) (fun _ h9 => h9) rfl d_Mod_keep_81 ?_
              refine z_imul hx hb d_Mod_keep_84 ?_
              refine lv_iload hx hb d_Mod_keep_85 (lv_at hl 0 rfl) ?_
              refine z_iadd hx hb d_Mod_keep_87 ?_
              refine lv_aload_n hx hb d_Mod_keep_88 rfl (lv_at hl 3 rfl) ?_
              refine va_get (D := (dC, dI)) (ci := 5) (v := .ref ((ma 4))) (C := "OrderTwoCasesModel") (T := F_Mod) (N := 15) hx hb hts la_Mod hown hK hP 0 rfl rfl 4 (by decide) (hts _ k_468) (fun _ h9 => h9) rfl d_Mod_keep_89 ?_
              have hq2 := hw3.r i
              have hq3 := hf.r i
              have hq4 := mul_bd hq3 (show (0 : Int) ≤ 16002 ∧ (16002 : Int) < 32003 by decide)
              refine lv_iload hx hb d_Mod_keep_92 (lv_at hl 0 rfl) ?_
              refine z_lald hx hb hK hP 4 1 rfl rfl (by omega) (by omega) (by omega) d_Mod_keep_94 ?_
              refine lv_aload_n hx hb d_Mod_keep_95 rfl (lv_at hl 3 rfl) ?_
              refine va_get (D := (dC, dI)) (ci := 5) (v := .ref ((ma 1))) (C := "OrderTwoCasesModel") (T := F_Mod) (N := 15) hx hb hts la_Mod hown hK hP 0 rfl rfl 1 (by decide) (hts _ k_465) (fun _ h9 => h9) rfl d_Mod_keep_96 ?_
              refine lv_iload hx hb d_Mod_keep_99 (lv_at hl 0 rfl) ?_
              refine z_iald hx hb hK hP 1 0 rfl rfl (by omega) (by omega) (by omega) d_Mod_keep_101 ?_
              refine z_i2l hx hb d_Mod_keep_102 (by omega) ?_
              refine lv_lload_n hx hb d_Mod_keep_103 rfl (lv_at hl 1 rfl) ?_
              refine z_lmul hx hb d_Mod_keep_104 ?_
              refine z_lsub hx hb d_Mod_keep_105 ?_
              refine w_rdl (va_runS (As := [.long (lZ ((ww i) - ((f i) * 16002)))]) (rest := [.int (iZ ((3 * mn) + i)), .ref ((ma 8))]) ⟨hx, hb, hml, hown, hts⟩ (c_modulo l ((ww i) - ((f i) * 16002)) (by omega)) (va_cwS 1 hts g_Mod_61 rfl rfl rfl (by decide +kernel) ⟨Nat.le_of_ble_eq_true rfl, Nat.le_of_ble_eq_true rfl⟩) preEq rfl rfl hl.1 rfl (lv_room (Nat.le_of_ble_eq_true rfl)) d_Mod_keep_106 ⟨Nat.le_of_ble_eq_true rfl, Nat.le_of_ble_eq_true rfl⟩) ?_
              have hm_106 := md_r ((ww i) - ((f i) * 16002))
              refine z_last (wf := [((ma 0), .inr (5, [.int (iZ (cd)), .ref ((ma 1)), .ref ((ma 2)), .ref ((ma 3)), .ref ((ma 4)), .ref ((ma 5)), .int (iZ (td)), .int (iZ (mn)), .ref ((ma 6)), .ref ((ma 7)), .ref ((ma 8)), .ref ((ma 9)), .ref ((ma 10)), .ref ((ma 11)), .ref ((ma 12))])), ((ma 1), .inl (cA, 3, .inl (aR f))), ((ma 2), .inl (cA, 5, .inl (aR g))), ((ma 3), .inl (cJ, 5, .inr (.inl (aL rs)))), ((ma 4), .inl (cJ, 3, .inr (.inl (aL ww)))), ((ma 5), .inl (cJ, 5, .inr (.inl (aL mo)))), ((ma 6), .inl (cA, 2, .inl (aR (sT dg mn (lastz tl 13))))), ((ma 7), .inl (cJ, 26, .inr (.inl (aL (blk 13 (13 * mn) tl pl))))), ((ma 8), .inl (cJ, 6, .inr (.inl (aL (sT (blkP (3 * mn) (tsz ww f) sl i) ((3 * mn) + i) (md ((ww i) - ((f i) * 16002)))))))), ((ma 9), .inl (cJ, 20, .inr (.inl (aL lf)))), ((ma 10), .inl (cJ, 13, .inr (.inl (aL tl)))), ((ma 11), .inl (cJ, 41, .inr (.inl (aL rw)))), ((ma 12), .inl (cA, 2, .inl (aR rt)))]) hx hb hK hP hD hS 8 1 rfl rfl (by omega) (by omega) (by omega) d_Mod_keep_109 rfl (fun H locs hP hD hS => ?_)
              rw [blkP_s (y := tsz ww f) (by omega) (by unfold tsz; rw [cuT_in (by omega), Int.mul_comm])] at hP hD
              refine z_iinc (lv' := [(4, .int (iZ (i + 1))), (2, .long (lZ (16002))), (1, .int (iZ (d))), (0, .ref ((ma 0)))]) hx hb d_Mod_keep_110 hl (k := 0) rfl (by decide) rfl (fun ls hl => ?_)
              refine lv_goto (tgt := 69) hx hb d_Mod_keep_113 (by decide) ?_
              exact ih_69 (i + 1) (by omega) (by omega) _ _ hP hD hS ls (lv_sub hl [0, 1, 2, 3] rfl)
        rw [← blkP_0 (3 * mn) (tsz ww f) sl] at hP hD
        exact loop_69 4 0 (by omega) (by omega) _ _ hP hD hS ls (lv_sub hl [0, 1, 2, 3] rfl)
      · refine lv_aload_n hx hb d_Mod_keep_10 rfl (lv_at hl 2 rfl) ?_
        refine va_get (D := (dC, dI)) (ci := 5) (v := .ref ((ma 7))) (C := "OrderTwoCasesModel") (T := F_Mod) (N := 15) hx hb hts la_Mod hown hK hP 0 rfl rfl 9 (by decide) (hts _ k_473) (fun _ h9 => h9) rfl d_Mod_keep_11 ?_
        refine lv_bipush (v := iZ (13)) hx hb d_Mod_keep_14 (by decide +kernel) ?_
        refine lv_aload_n hx hb d_Mod_keep_16 rfl (lv_at hl 2 rfl) ?_
        refine va_get (D := (dC, dI)) (ci := 5) (v := .int (iZ (mn))) (C := "OrderTwoCasesModel") (T := F_Mod) (N := 15) hx hb hts la_Mod hown hK hP 0 rfl rfl 7 (by decide) (hts _ k_471) (fun _ h9 => h9) rfl d_Mod_keep_17 ?_
        refine z_imul hx hb d_Mod_keep_20 ?_
        refine lv_iload_n hx hb d_Mod_keep_21 rfl (lv_at hl 0 rfl) ?_
        refine z_iadd hx hb d_Mod_keep_22 ?_
        refine lv_aload_n hx hb d_Mod_keep_23 rfl (lv_at hl 2 rfl) ?_
        refine va_get (D := (dC, dI)) (ci := 5) (v := .ref ((ma 10))) (C := "OrderTwoCasesModel") (T := F_Mod) (N := 15) hx hb hts la_Mod hown hK hP 0 rfl rfl 12 (by decide) (hts _ k_476) (fun _ h9 => h9) rfl d_Mod_keep_24 ?_
        refine lv_iload_n hx hb d_Mod_keep_27 rfl (lv_at hl 0 rfl) ?_
        refine z_lald hx hb hK hP 10 1 rfl rfl (by omega) (by omega) (by omega) d_Mod_keep_28 ?_
        refine z_last (wf := [((ma 0), .inr (5, [.int (iZ (cd)), .ref ((ma 1)), .ref ((ma 2)), .ref ((ma 3)), .ref ((ma 4)), .ref ((ma 5)), .int (iZ (td)), .int (iZ (mn)), .ref ((ma 6)), .ref ((ma 7)), .ref ((ma 8)), .ref ((ma 9)), .ref ((ma 10)), .ref ((ma 11)), .ref ((ma 12))])), ((ma 1), .inl (cA, 3, .inl (aR f))), ((ma 2), .inl (cA, 5, .inl (aR g))), ((ma 3), .inl (cJ, 5, .inr (.inl (aL rs)))), ((ma 4), .inl (cJ, 3, .inr (.inl (aL ww)))), ((ma 5), .inl (cJ, 5, .inr (.inl (aL mo)))), ((ma 6), .inl (cA, 2, .inl (aR dg))), ((ma 7), .inl (cJ, 26, .inr (.inl (aL (sT (blkP (13 * mn) tl pl k) ((13 * mn) + k) (tl k)))))), ((ma 8), .inl (cJ, 6, .inr (.inl (aL sl)))), ((ma 9), .inl (cJ, 20, .inr (.inl (aL lf)))), ((ma 10), .inl (cJ, 13, .inr (.inl (aL tl)))), ((ma 11), .inl (cJ, 41, .inr (.inl (aL rw)))), ((ma 12), .inl (cA, 2, .inl (aR rt)))]) hx hb hK hP hD hS 7 1 rfl rfl (by omega) (by omega) (by omega) d_Mod_keep_29 rfl (fun H locs hP hD hS => ?_)
        rw [blkP_s (by omega) rfl] at hP hD
        have hq1 := ht13.r k
        refine lv_aload_n hx hb d_Mod_keep_30 rfl (lv_at hl 2 rfl) ?_
        refine va_get (D := (dC, dI)) (ci := 5) (v := .ref ((ma 10))) (C := "OrderTwoCasesModel") (T := F_Mod) (N := 15) hx hb hts la_Mod hown hK hP 0 rfl rfl 12 (by decide) (hts _ k_476) (fun _ h9 => h9) rfl d_Mod_keep_31 ?_
        refine lv_iload_n hx hb d_Mod_keep_34 rfl (lv_at hl 0 rfl) ?_
        refine z_lald hx hb hK hP 10 1 rfl rfl (by omega) (by omega) (by omega) d_Mod_keep_35 ?_
        refine lv_lconst (v := lZ (0)) hx hb d_Mod_keep_36 (by decide +kernel) ?_
        refine z_lcmp hx hb d_Mod_keep_37 (by omega) (by omega) ?_
        have hcm_37 := cmz_s (tl k) 0
        refine z_if_eq (tgt := 43) hx hb d_Mod_keep_38 (by decide) (by omega) (fun c_38 => ?_) (fun c_38 => ?_)
        · refine z_iinc (lv' := [(2, .int (iZ (k + 1))), (1, .int (iZ (d))), (0, .ref ((ma 0)))]) hx hb d_Mod_keep_43 hl (k := 0) rfl (by decide) rfl (fun ls hl => ?_)
          refine lv_goto (tgt := 4) hx hb d_Mod_keep_46 (by decide) ?_
          exact ih_4 (k + 1) d (by omega) (by rw [last_s tl (by omega), if_neg (by omega)]; exact hd9) (by omega) _ _ hP hD hS ls (lv_sub hl [0, 1, 2] rfl)
        · refine lv_iload_n hx hb d_Mod_keep_41 rfl (lv_at hl 0 rfl) ?_
          refine lv_istore_n (lv' := [(1, .int (iZ (k))), (2, .int (iZ (k))), (0, .ref ((ma 0)))]) hx hb d_Mod_keep_42 rfl hl (by decide) rfl (fun ls hl => ?_)
          refine z_iinc (lv' := [(2, .int (iZ (k + 1))), (1, .int (iZ (k))), (0, .ref ((ma 0)))]) hx hb d_Mod_keep_43 hl (k := 1) rfl (by decide) rfl (fun ls hl => ?_)
          refine lv_goto (tgt := 4) hx hb d_Mod_keep_46 (by decide) ?_
          exact ih_4 (k + 1) k (by omega) (by rw [last_s tl (by omega), if_pos (by omega)]) (by omega) _ _ hP hD hS ls (lv_sub hl [0, 1, 2] rfl)
  rw [← blkP_0 (13 * mn) tl pl] at hP hD
  exact loop_4 14 0 0 (by omega) rfl (by omega) _ _ hP hD hS ls (lv_sub hl [0, 1, 2] rfl)
