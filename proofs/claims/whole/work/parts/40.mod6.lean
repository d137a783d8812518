set_option maxHeartbeats 4000000 in
set_option maxRecDepth 100000 in
/-- make() -/
theorem c_make (l : Launch) (dC : Nat → ClassId) (dI : Nat → Nat → Nat) (cA cJ : ClassId) (sz : Nat) (ma : Nat → Nat) (f g rs ww mo dg pl sl lf tl rw rt : Int → Int) (cd td mn : Int) (ht13 : RoW 13 tl) (hw3 : RoW 3 ww) (hm5 : RoW 5 mo) : Met l y_Mod_make w_Mod_make ({ frames := 1, cells := 0, slots := 0, locals := 23 }) (va_Pc [.ref ((ma 0))] (wP (dC, dI) vC [(cA, .int), (cJ, .long)] (mW cA cJ ma f g (rs, ww, mo, dg, pl, sl, lf, tl, rw, rt, cd, td, mn)) sz)) (va_Qv (fun u : MS => LTz ww mo tl = u.2.2.2.2.2.2.1 ∧ rs = u.1 ∧ ww = u.2.1 ∧ mo = u.2.2.1 ∧ dg = u.2.2.2.1 ∧ pl = u.2.2.2.2.1 ∧ sl = u.2.2.2.2.2.1 ∧ tl = u.2.2.2.2.2.2.2.1 ∧ rw = u.2.2.2.2.2.2.2.2.1 ∧ rt = u.2.2.2.2.2.2.2.2.2.1 ∧ cd = u.2.2.2.2.2.2.2.2.2.2.1 ∧ td = u.2.2.2.2.2.2.2.2.2.2.2.1 ∧ mn = u.2.2.2.2.2.2.2.2.2.2.2.2) (fun (u : MS) t => wB (dC, dI) vC (va_A (mW cA cJ ma f g (rs, ww, mo, dg, pl, sl, lf, tl, rw, rt, cd, td, mn)) sz) (mW cA cJ ma f g u) t) (va_A (mW cA cJ ma f g (rs, ww, mo, dg, pl, sl, lf, tl, rw, rt, cd, td, mn)) sz)) 0 0 (va_A (mW cA cJ ma f g (rs, ww, mo, dg, pl, sl, lf, tl, rw, rt, cd, td, mn)) sz) := by
  refine Met.ofW (cc := b_Mod_make) (maxL := 5) (ret := (Option.none : Option Jvm.ClassFile.FieldType)) (by decide) rfl ?_
  intro p e s m args below meth c s₁ B hml hv
  obtain ⟨rfl, hsz, hP, hK, hD0⟩ := hv
  have hx := B.exec
  have hb := B.bytes
  have hr := B.returns
  have hts : ∀ w ∈ tT, w.before _ s = true := fun w h => atoms_spec (ws := w_Mod_make) B.pre w (List.mem_cons_of_mem _ h)
  have hown : s.vm.findClass "OrderTwoCasesModel" = some m.cls := findClass_of_methodNamed B.named
  have hlocks := B.notSynchronized
  subst hsz
  have hD := hD0.self (sz := s.heap.size)
  generalize hAe : va_A (mW cA cJ ma f g (rs, ww, mo, dg, pl, sl, lf, tl, rw, rt, cd, td, mn)) s.heap.size = A at hD ⊢
  have hA : ∀ q : Nat, s.heap.size ≤ q → A q := fun q h => by rw [← hAe]; exact Or.inr h
  have hS : va_S A s.heap s.heap [] := va_S.rf
  have hl := lv_entry ([.ref ((ma 0))]) (n := 5) (Nat.le_of_ble_eq_true rfl)
  rw [lg_entry_eq]
  generalize (lg_sl ([.ref ((ma 0))]) ++ List.replicate (5 - (lg_sl ([.ref ((ma 0))])).length) Slot.unset).toArray = ls at hl ⊢
  have hl : lv_has ls 5 [(0, .ref ((ma 0)))] := hl
  have hP : va_P (dC, dI) vC [((ma 0), .inr (5, [.int (iZ (cd)), .ref ((ma 1)), .ref ((ma 2)), .ref ((ma 3)), .ref ((ma 4)), .ref ((ma 5)), .int (iZ (td)), .int (iZ (mn)), .ref ((ma 6)), .ref ((ma 7)), .ref ((ma 8)), .ref ((ma 9)), .ref ((ma 10)), .ref ((ma 11)), .ref ((ma 12))])), ((ma 1), .inl (cA, 3, .inl (aR f))), ((ma 2), .inl (cA, 5, .inl (aR g))), ((ma 3), .inl (cJ, 5, .inr (.inl (aL rs)))), ((ma 4), .inl (cJ, 3, .inr (.inl (aL ww)))), ((ma 5), .inl (cJ, 5, .inr (.inl (aL mo)))), ((ma 6), .inl (cA, 2, .inl (aR dg))), ((ma 7), .inl (cJ, 26, .inr (.inl (aL pl)))), ((ma 8), .inl (cJ, 6, .inr (.inl (aL sl)))), ((ma 9), .inl (cJ, 20, .inr (.inl (aL lf)))), ((ma 10), .inl (cJ, 13, .inr (.inl (aL tl)))), ((ma 11), .inl (cJ, 41, .inr (.inl (aL rw)))), ((ma 12), .inl (cA, 2, .inl (aR rt)))] s.heap := hP
  have hD : va_D A [((ma 0), .inr (5, [.int (iZ (cd)), .ref ((ma 1)), .ref ((ma 2)), .ref ((ma 3)), .ref ((ma 4)), .ref ((ma 5)), .int (iZ (td)), .int (iZ (mn)), .ref ((ma 6)), .ref ((ma 7)), .ref ((ma 8)), .ref ((ma 9)), .ref ((ma 10)), .ref ((ma 11)), .ref ((ma 12))])), ((ma 1), .inl (cA, 3, .inl (aR f))), ((ma 2), .inl (cA, 5, .inl (aR g))), ((ma 3), .inl (cJ, 5, .inr (.inl (aL rs)))), ((ma 4), .inl (cJ, 3, .inr (.inl (aL ww)))), ((ma 5), .inl (cJ, 5, .inr (.inl (aL mo)))), ((ma 6), .inl (cA, 2, .inl (aR dg))), ((ma 7), .inl (cJ, 26, .inr (.inl (aL pl)))), ((ma 8), .inl (cJ, 6, .inr (.inl (aL sl)))), ((ma 9), .inl (cJ, 20, .inr (.inl (aL lf)))), ((ma 10), .inl (cJ, 13, .inr (.inl (aL tl)))), ((ma 11), .inl (cJ, 41, .inr (.inl (aL rw)))), ((ma 12), .inl (cA, 2, .inl (aR rt)))] := hD
  refine lv_iconst (v := iZ (0)) hx hb d_Mod_make_0 rfl ?_
  refine lv_istore_n (lv' := [(1, .int (iZ (0))), (0, .ref ((ma 0)))]) hx hb d_Mod_make_1 rfl hl (by decide) rfl (fun ls hl => ?_)
  have loop_2 : ∀ (m_2 : Nat) (i : Int) (hi : 0 ≤ i ∧ i ≤ 20) (hmeas : 20 - i < (m_2 : Int)) (H : Heap) (locs : List Loc) (hP : va_P (dC, dI) vC [((ma 0), .inr (5, [.int (iZ (cd)), .ref ((ma 1)), .ref ((ma 2)), .ref ((ma 3)), .ref ((ma 4)), .ref ((ma 5)), .int (iZ (td)), .int (iZ (mn)), .ref ((ma 6)), .ref ((ma 7)), .ref ((ma 8)), .ref ((ma 9)), .ref ((ma 10)), .ref ((ma 11)), .ref ((ma 12))])), ((ma 1), .inl (cA, 3, .inl (aR f))), ((ma 2), .inl (cA, 5, .inl (aR g))), ((ma 3), .inl (cJ, 5, .inr (.inl (aL rs)))), ((ma 4), .inl (cJ, 3, .inr (.inl (aL ww)))), ((ma 5), .inl (cJ, 5, .inr (.inl (aL mo)))), ((ma 6), .inl (cA, 2, .inl (aR dg))), ((ma 7), .inl (cJ, 26, .inr (.inl (aL pl)))), ((ma 8), .inl (cJ, 6, .inr (.inl (aL sl)))), ((ma 9), .inl (cJ, 20, .inr (.inl (aL (fL (fun _ => 0) lf i))))), ((ma 10), .inl (cJ, 13, .inr (.inl (aL tl)))), ((ma 11), .inl (cJ, 41, .inr (.inl (aL rw)))), ((ma 12), .inl (cA, 2, .inl (aR rt)))] H) (hD : va_D A [((ma 0), .inr (5, [.int (iZ (cd)), .ref ((ma 1)), .ref ((ma 2)), .ref ((ma 3)), .ref ((ma 4)), .ref ((ma 5)), .int (iZ (td)), .int (iZ (mn)), .ref ((ma 6)), .ref ((ma 7)), .ref ((ma 8)), .ref ((ma 9)), .ref ((ma 10)), .ref ((ma 11)), .ref ((ma 12))])), ((ma 1), .inl (cA, 3, .inl (aR f))), ((ma 2), .inl (cA, 5, .inl (aR g))), ((ma 3), .inl (cJ, 5, .inr (.inl (aL rs)))), ((ma 4), .inl (cJ, 3, .inr (.inl (aL ww)))), ((ma 5), .inl (cJ, 5, .inr (.inl (aL mo)))), ((ma 6), .inl (cA, 2, .inl (aR dg))), ((ma 7), .inl (cJ, 26, .inr (.inl (aL pl)))), ((ma 8), .inl (cJ, 6, .inr (.inl (aL sl)))), ((ma 9), .inl (cJ, 20, .inr (.inl (aL (fL (fun _ => 0) lf i))))), ((ma 10), .inl (cJ, 13, .inr (.inl (aL tl)))), ((ma 11), .inl (cJ, 41, .inr (.inl (aL rw)))), ((ma 12), .inl (cA, 2, .inl (aR rt)))]) (hS : va_S A s.heap H locs) (ls : Array Slot) (hl : lv_has ls 5 [(1, .int (iZ (i))), (0, .ref ((ma 0)))]), W p l e ({ frames := 1, cells := 0, slots := 0, locals := 23 } : Room) s m ([.ref ((ma 0))] : List Value).toArray below meth c H locs 0 0 (MQ below (va_Qv (fun u : MS => LTz ww mo tl = u.2.2.2.2.2.2.1 ∧ rs = u.1 ∧ ww = u.2.1 ∧ mo = u.2.2.1 ∧ dg = u.2.2.2.1 ∧ pl = u.2.2.2.2.1 ∧ sl = u.2.2.2.2.2.1 ∧ tl = u.2.2.2.2.2.2.2.1 ∧ rw = u.2.2.2.2.2.2.2.2.1 ∧ rt = u.2.2.2.2.2.2.2.2.2.1 ∧ cd = u.2.2.2.2.2.2.2.2.2.2.1 ∧ td = u.2.2.2.2.2.2.2.2.2.2.2.1 ∧ mn = u.2.2.2.2.2.2.2.2.2.2.2.2) (fun (u : MS) t => wB (dC, dI) vC A (mW cA cJ ma f g u) t) A) ([.ref ((ma 0))] : List Value).toArray s 0 0 A) (F0 m 2 ls []) := by
    intro m_2
    induction m_2 with
    | zero =>
      intro i hi hmeas
      exfalso; omega
    | succ m_2 ih_2 =>
      intro i hi hmeas H locs hP hD hS ls hl
      refine lv_iload_n hx hb d_Mod_make_2 rfl (lv_at hl 0 rfl) ?_
      refine lv_bipush (v := iZ (20)) hx hb d_Mod_make_3 (by decide +kernel) ?_
      refine z_icmp_ge (tgt := 21) hx hb d_Mod_make_5 (by decide) (by omega) (by omega) (fun c_5 => ?_) (fun c_5 => ?_)
      · have hz : i = 20 := by omega
        subst hz
        obtain ⟨hP, hD⟩ := wfixL (wf := [((ma 0), .inr (5, [.int (iZ (cd)), .ref ((ma 1)), .ref ((ma 2)), .ref ((ma 3)), .ref ((ma 4)), .ref ((ma 5)), .int (iZ (td)), .int (iZ (mn)), .ref ((ma 6)), .ref ((ma 7)), .ref ((ma 8)), .ref ((ma 9)), .ref ((ma 10)), .ref ((ma 11)), .ref ((ma 12))])), ((ma 1), .inl (cA, 3, .inl (aR f))), ((ma 2), .inl (cA, 5, .inl (aR g))), ((ma 3), .inl (cJ, 5, .inr (.inl (aL rs)))), ((ma 4), .inl (cJ, 3, .inr (.inl (aL ww)))), ((ma 5), .inl (cJ, 5, .inr (.inl (aL mo)))), ((ma 6), .inl (cA, 2, .inl (aR dg))), ((ma 7), .inl (cJ, 26, .inr (.inl (aL pl)))), ((ma 8), .inl (cJ, 6, .inr (.inl (aL sl)))), ((ma 9), .inl (cJ, 20, .inr (.inl (aL (L0 ww mo tl 0))))), ((ma 10), .inl (cJ, 13, .inr (.inl (aL tl)))), ((ma 11), .inl (cJ, 41, .inr (.inl (aL rw)))), ((ma 12), .inl (cA, 2, .inl (aR rt)))]) hP hD 9 rfl (L0 ww mo tl 0) (fun k h0 h1 => (if_pos ⟨h0, by omega⟩).trans rfl) rfl
        refine lv_iconst (v := iZ (0)) hx hb d_Mod_make_21 rfl ?_
        refine lv_istore_n (lv' := [(1, .int (iZ (0))), (0, .ref ((ma 0)))]) hx hb d_Mod_make_22 rfl hl (by decide) rfl (fun ls hl => ?_)
        have loop_23 : ∀ (m_23 : Nat) (d : Int) (hd : 0 ≤ d ∧ d ≤ 13) (hmeas : 13 - d < (m_23 : Int)) (H : Heap) (locs : List Loc) (hP : va_P (dC, dI) vC [((ma 0), .inr (5, [.int (iZ (cd)), .ref ((ma 1)), .ref ((ma 2)), .ref ((ma 3)), .ref ((ma 4)), .ref ((ma 5)), .int (iZ (td)), .int (iZ (mn)), .ref ((ma 6)), .ref ((ma 7)), .ref ((ma 8)), .ref ((ma 9)), .ref ((ma 10)), .ref ((ma 11)), .ref ((ma 12))])), ((ma 1), .inl (cA, 3, .inl (aR f))), ((ma 2), .inl (cA, 5, .inl (aR g))), ((ma 3), .inl (cJ, 5, .inr (.inl (aL rs)))), ((ma 4), .inl (cJ, 3, .inr (.inl (aL ww)))), ((ma 5), .inl (cJ, 5, .inr (.inl (aL mo)))), ((ma 6), .inl (cA, 2, .inl (aR dg))), ((ma 7), .inl (cJ, 26, .inr (.inl (aL pl)))), ((ma 8), .inl (cJ, 6, .inr (.inl (aL sl)))), ((ma 9), .inl (cJ, 20, .inr (.inl (aL (L0 ww mo tl d))))), ((ma 10), .inl (cJ, 13, .inr (.inl (aL tl)))), ((ma 11), .inl (cJ, 41, .inr (.inl (aL rw)))), ((ma 12), .inl (cA, 2, .inl (aR rt)))] H) (hD : va_D A [((ma 0), .inr (5, [.int (iZ (cd)), .ref ((ma 1)), .ref ((ma 2)), .ref ((ma 3)), .ref ((ma 4)), .ref ((ma 5)), .int (iZ (td)), .int (iZ (mn)), .ref ((ma 6)), .ref ((ma 7)), .ref ((ma 8)), .ref ((ma 9)), .ref ((ma 10)), .ref ((ma 11)), .ref ((ma 12))])), ((ma 1), .inl (cA, 3, .inl (aR f))), ((ma 2), .inl (cA, 5, .inl (aR g))), ((ma 3), .inl (cJ, 5, .inr (.inl (aL rs)))), ((ma 4), .inl (cJ, 3, .inr (.inl (aL ww)))), ((ma 5), .inl (cJ, 5, .inr (.inl (aL mo)))), ((ma 6), .inl (cA, 2, .inl (aR dg))), ((ma 7), .inl (cJ, 26, .inr (.inl (aL pl)))), ((ma 8), .inl (cJ, 6, .inr (.inl (aL sl)))), ((ma 9), .inl (cJ, 20, .inr (.inl (aL (L0 ww mo tl d))))), ((ma 10), .inl (cJ, 13, .inr (.inl (aL tl)))), ((ma 11), .inl (cJ, 41, .inr (.inl (aL rw)))), ((ma 12), .inl (cA, 2, .inl (aR rt)))]) (hS : va_S A s.heap H locs) (ls : Array Slot) (hl : lv_has ls 5 [(1, .int (iZ (d))), (0, .ref ((ma 0)))]), W p l e ({ frames := 1, cells := 0, slots := 0, locals := 23 } : Room) s m ([.ref ((ma 0))] : List Value).toArray below meth c H locs 0 0 (MQ below (va_Qv (fun u : MS => LTz ww mo tl = u.2.2.2.2.2.2.1 ∧ rs = u.1 ∧ ww = u.2.1 ∧ mo = u.2.2.1 ∧ dg = u.2.2.2.1 ∧ pl = u.2.2.2.2.1 ∧ sl = u.2.2.2.2.2.1 ∧ tl = u.2.2.2.2.2.2.2.1 ∧ rw = u.2.2.2.2.2.2.2.2.1 ∧ rt = u.2.2.2.2.2.2.2.2.2.1 ∧ cd = u.2.2.2.2.2.2.2.2.2.2.1 ∧ td = u.2.2.2.2.2.2.2.2.2.2.2.1 ∧ mn = u.2.2.2.2.2.2.2.2.2.2.2.2) (fun (u : MS) t => wB (dC, dI) vC A (mW cA cJ ma f g u) t) A) ([.ref ((ma 0))] : List Value).toArray s 0 0 A) (F0 m 23 ls []) := by
          intro m_23
          induction m_23 with
          | zero =>
            intro d hd hmeas
            exfalso; omega
          | succ m_23 ih_23 =>
            intro d hd hmeas H locs hP hD hS ls hl
            refine lv_iload_n hx hb d_Mod_make_23 rfl (lv_at hl 0 rfl) ?_
            refine lv_bipush (v := iZ (12)) hx hb d_Mod_make_24 (by decide +kernel) ?_
            refine z_icmp_gt (tgt := 254) hx hb d_Mod_make_26 (by decide) (by omega) (by omega) (fun c_26 => ?_) (fun c_26 => ?_)
            · have hz : d = 13 := by omega
              subst hz
              exact w_vret (post := fun (u : MS) => LTz ww mo tl = u.2.2.2.2.2.2.1 ∧ rs = u.1 ∧ ww = u.2.1 ∧ mo = u.2.2.1 ∧ dg = u.2.2.2.1 ∧ pl = u.2.2.2.2.1 ∧ sl = u.2.2.2.2.2.1 ∧ tl = u.2.2.2.2.2.2.2.1 ∧ rw = u.2.2.2.2.2.2.2.2.1 ∧ rt = u.2.2.2.2.2.2.2.2.2.1 ∧ cd = u.2.2.2.2.2.2.2.2.2.2.1 ∧ td = u.2.2.2.2.2.2.2.2.2.2.2.1 ∧ mn = u.2.2.2.2.2.2.2.2.2.2.2.2) (wn := fun (u : MS) => mW cA cJ ma f g u) hx hb hr hlocks (rs, ww, mo, dg, pl, sl, LTz ww mo tl, tl, rw, rt, cd, td, mn) ⟨rfl, rfl, rfl, rfl, rfl, rfl, rfl, rfl, rfl, rfl, rfl, rfl, rfl⟩ hP hD hS d_Mod_make_254
            · refine lv_aload_n hx hb d_Mod_make_29 rfl (lv_at hl 1 rfl) ?_
              refine va_get (D := (dC, dI)) (ci := 5) (v := .ref ((ma 10))) (C := "OrderTwoCasesModel") (T := F_Mod) (N := 15) hx hb hts la_Mod hown hK hP 0 rfl rfl 12 (by decide) (hts _ k_476) (fun _ h9 => h9) rfl d_Mod_make_30 ?_
              refine lv_iload_n hx hb d_Mod_make_33 rfl (lv_at hl 0 rfl) ?_
              refine z_lald hx hb hK hP 10 1 rfl rfl (by omega) (by omega) (by omega) d_Mod_make_34 ?_
              refine lv_lstore_n (lv' := [(2, .long (lZ (tl d))), (1, .int (iZ (d))), (0, .ref ((ma 0)))]) hx hb d_Mod_make_35 rfl hl (by decide) rfl (fun ls hl => ?_)
              have hv9 := ht13.r d
              refine lv_lload_n hx hb d_Mod_make_36 rfl (lv_at hl 0 rfl) ?_
              refine lv_lconst (v := lZ (0)) hx hb d_Mod_make_37 (by decide +kernel) ?_
              refine z_lcmp hx hb d_Mod_make_38 (by omega) (by omega) ?_
              have hcm_38 := cmz_s (tl d) 0
              refine z_if_ne (tgt := 45) hx hb d_Mod_make_39 (by decide) (by omega) (fun c_39 => ?_) (fun c_39 => ?_)
              · refine lv_iload_n hx hb d_Mod_make_45 rfl (lv_at hl 1 rfl) ?_
                refine lv_iconst (v := iZ (1)) hx hb d_Mod_make_46 rfl ?_
                refine z_icmp_le (tgt := 79) hx hb d_Mod_make_47 (by decide) (by omega) (by omega) (fun c_47 => ?_) (fun c_47 => ?_)
                · rw [L01_skip (by omega)] at hP hD
                  rw [L12] at hP hD
                  have hP : va_P (dC, dI) vC [((ma 0), .inr (5, [.int (iZ (cd)), .ref ((ma 1)), .ref ((ma 2)), .ref ((ma 3)), .ref ((ma 4)), .ref ((ma 5)), .int (iZ (td)), .int (iZ (mn)), .ref ((ma 6)), .ref ((ma 7)), .ref ((ma 8)), .ref ((ma 9)), .ref ((ma 10)), .ref ((ma 11)), .ref ((ma 12))])), ((ma 1), .inl (cA, 3, .inl (aR f))), ((ma 2), .inl (cA, 5, .inl (aR g))), ((ma 3), .inl (cJ, 5, .inr (.inl (aL rs)))), ((ma 4), .inl (cJ, 3, .inr (.inl (aL ww)))), ((ma 5), .inl (cJ, 5, .inr (.inl (aL mo)))), ((ma 6), .inl (cA, 2, .inl (aR dg))), ((ma 7), .inl (cJ, 26, .inr (.inl (aL pl)))), ((ma 8), .inl (cJ, 6, .inr (.inl (aL sl)))), ((ma 9), .inl (cJ, 20, .inr (.inl (aL (L2 ww mo tl d 0))))), ((ma 10), .inl (cJ, 13, .inr (.inl (aL tl)))), ((ma 11), .inl (cJ, 41, .inr (.inl (aL rw)))), ((ma 12), .inl (cA, 2, .inl (aR rt)))] H := hP
                  have hD : va_D A [((ma 0), .inr (5, [.int (iZ (cd)), .ref ((ma 1)), .ref ((ma 2)), .ref ((ma 3)), .ref ((ma 4)), .ref ((ma 5)), .int (iZ (td)), .int (iZ (mn)), .ref ((ma 6)), .ref ((ma 7)), .ref ((ma 8)), .ref ((ma 9)), .ref ((ma 10)), .ref ((ma 11)), .ref ((ma 12))])), ((ma 1), .inl (cA, 3, .inl (aR f))), ((ma 2), .inl (cA, 5, .inl (aR g))), ((ma 3), .inl (cJ, 5, .inr (.inl (aL rs)))), ((ma 4), .inl (cJ, 3, .inr (.inl (aL ww)))), ((ma 5), .inl (cJ, 5, .inr (.inl (aL mo)))), ((ma 6), .inl (cA, 2, .inl (aR dg))), ((ma 7), .inl (cJ, 26, .inr (.inl (aL pl)))), ((ma 8), .inl (cJ, 6, .inr (.inl (aL sl)))), ((ma 9), .inl (cJ, 20, .inr (.inl (aL (L2 ww mo tl d 0))))), ((ma 10), .inl (cJ, 13, .inr (.inl (aL tl)))), ((ma 11), .inl (cJ, 41, .inr (.inl (aL rw)))), ((ma 12), .inl (cA, 2, .inl (aR rt)))] := hD
                  refine lv_iconst (v := iZ (0)) hx hb d_Mod_make_79 rfl ?_
                  refine lv_istore (lv' := [(4, .int (iZ (0))), (2, .long (lZ (tl d))), (1, .int (iZ (d))), (0, .ref ((ma 0)))]) hx hb d_Mod_make_80 hl (by decide) rfl (fun ls hl => ?_)
                  have loop_82 : ∀ (m_82 : Nat) (k : Int) (hk : 0 ≤ k ∧ k ≤ 3) (hkd : 0 < d ∨ k = 0) (hmeas : 3 - k < (m_82 : Int)) (H : Heap) (locs : List Loc) (hP : va_P (dC, dI) vC [((ma 0), .inr (5, [.int (iZ (cd)), .ref ((ma 1)), .ref ((ma 2)), .ref ((ma 3)), .ref ((ma 4)), .ref ((ma 5)), .int (iZ (td)), .int (iZ (mn)), .ref ((ma 6)), .ref ((ma 7)), .ref ((ma 8)), .ref ((ma 9)), .ref ((ma 10)), .ref ((ma 11)), .ref ((ma 12))])), ((ma 1), .inl (cA, 3, .inl (aR f))), ((ma 2), .inl (cA, 5, .inl (aR g))), ((ma 3), .inl (cJ, 5, .inr (.inl (aL rs)))), ((ma 4), .inl (cJ, 3, .inr (.inl (aL ww)))), ((ma 5), .inl (cJ, 5, .inr (.inl (aL mo)))), ((ma 6), .inl (cA, 2, .inl (aR dg))), ((ma 7), .inl (cJ, 26, .inr (.inl (aL pl)))), ((ma 8), .inl (cJ, 6, .inr (.inl (aL sl)))), ((ma 9), .inl (cJ, 20, .inr (.inl (aL (L2 ww mo tl d k))))), ((ma 10), .inl (cJ, 13, .inr (.inl (aL tl)))), ((ma 11), .inl (cJ, 41, .inr (.inl (aL rw)))), ((ma 12), .inl (cA, 2, .inl (aR rt)))] H) (hD : va_D A [((ma 0), .inr (5, [.int (iZ (cd)), .ref ((ma 1)), .ref ((ma 2)), .ref ((ma 3)), .ref ((ma 4)), .ref ((ma 5)), .int (iZ (td)), .int (iZ (mn)), .ref ((ma 6)), .ref ((ma 7)), .ref ((ma 8)), .ref ((ma 9)), .ref ((ma 10)), .ref ((ma 11)), .ref ((ma 12))])), ((ma 1), .inl (cA, 3, .inl (aR f))), ((ma 2), .inl (cA, 5, .inl (aR g))), ((ma 3), .inl (cJ, 5, .inr (.inl (aL rs)))), ((ma 4), .inl (cJ, 3, .inr (.inl (aL ww)))), ((ma 5), .inl (cJ, 5, .inr (.inl (aL mo)))), ((ma 6), .inl (cA, 2, .inl (aR dg))), ((ma 7), .inl (cJ, 26, .inr (.inl (aL pl)))), ((ma 8), .inl (cJ, 6, .inr (.inl (aL sl)))), ((ma 9), .inl (cJ, 20, .inr (.inl (aL (L2 ww mo tl d k))))), ((ma 10), .inl (cJ, 13, .inr (.inl (aL tl)))), ((ma 11), .inl (cJ, 41, .inr (.inl (aL rw)))), ((ma 12), .inl (cA, 2, .inl (aR rt)))]) (hS : va_S A s.heap H locs) (ls : Array Slot) (hl : lv_has ls 5 [(4, .int (iZ (k))), (2, .long (lZ (tl d))), (1, .int (iZ (d))), (0, .ref ((ma 0)))]), W p l e ({ frames := 1, cells := 0, slots := 0, locals := 23 } : Room) s m ([.ref ((ma 0))] : List Value).toArray below meth c H locs 0 0 (MQ below (va_Qv (fun u : MS => LTz ww mo tl = u.2.2.2.2.2.2.1 ∧ rs = u.1 ∧ ww = u.2.1 ∧ mo = u.2.2.1 ∧ dg = u.2.2.2.1 ∧ pl = u.2.2.2.2.1 ∧ sl = u.2.2.2.2.2.1 ∧ tl = u.2.2.2.2.2.2.2.1 ∧ rw = u.2.2.2.2.2.2.2.2.1 ∧ rt = u.2.2.2.2.2.2.2.2.2.1 ∧ cd = u.2.2.2.2.2.2.2.2.2.2.1 ∧ td = u.2.2.2.2.2.2.2.2.2.2.2.1 ∧ mn = u.2.2.2.2.2.2.2.2.2.2.2.2) (fun (u : MS) t => wB (dC, dI) vC A (mW cA cJ ma f g u) t) A) ([.ref ((ma 0))] : List Value).toArray s 0 0 A) (F0 m 82 ls []) := by
                    intro m_82
                    induction m_82 with
                    | zero =>
                      intro k hk hkd hmeas
                      exfalso; omega
                    | succ m_82 ih_82 =>
                      intro k hk hkd hmeas H locs hP hD hS ls hl
                      refine lv_iload hx hb d_Mod_make_82 (lv_at hl 0 rfl) ?_
                      refine lv_iconst (v := iZ (3)) hx hb d_Mod_make_84 rfl ?_
                      refine z_icmp_ge (tgt := 143) hx hb d_Mod_make_85 (by decide) (by omega) (by omega) (fun c_85 => ?_) (fun c_85 => ?_)
                      · have hE3 : L2 ww mo tl d k = L3 ww mo tl d 0 := by
                          by_cases q : d ≤ 0
                          · rw [show k = 0 by omega]; exact L23_0 (by omega)
                          · rw [show k = 3 by omega]; exact L23 _ _ _ _
                        rw [hE3] at hP hD
                        refine lv_iconst (v := iZ (0)) hx hb d_Mod_make_143 rfl ?_
                        refine lv_istore (lv' := [(4, .int (iZ (0))), (2, .long (lZ (tl d))), (1, .int (iZ (d))), (0, .ref ((ma 0)))]) hx hb d_Mod_make_144 hl (by decide) rfl (fun ls hl => ?_)
                        have loop_146 : ∀ (m_146 : Nat) (k : Int) (hk : 0 ≤ k ∧ k ≤ 2) (hmeas : 2 - k < (m_146 : Int)) (H : Heap) (locs : List Loc) (hP : va_P (dC, dI) vC [((ma 0), .inr (5, [.int (iZ (cd)), .ref ((ma 1)), .ref ((ma 2)), .ref ((ma 3)), .ref ((ma 4)), .ref ((ma 5)), .int (iZ (td)), .int (iZ (mn)), .ref ((ma 6)), .ref ((ma 7)), .ref ((ma 8)), .ref ((ma 9)), .ref ((ma 10)), .ref ((ma 11)), .ref ((ma 12))])), ((ma 1), .inl (cA, 3, .inl (aR f))), ((ma 2), .inl (cA, 5, .inl (aR g))), ((ma 3), .inl (cJ, 5, .inr (.inl (aL rs)))), ((ma 4), .inl (cJ, 3, .inr (.inl (aL ww)))), ((ma 5), .inl (cJ, 5, .inr (.inl (aL mo)))), ((ma 6), .inl (cA, 2, .inl (aR dg))), ((ma 7), .inl (cJ, 26, .inr (.inl (aL pl)))), ((ma 8), .inl (cJ, 6, .inr (.inl (aL sl)))), ((ma 9), .inl (cJ, 20, .inr (.inl (aL (L3 ww mo tl d k))))), ((ma 10), .inl (cJ, 13, .inr (.inl (aL tl)))), ((ma 11), .inl (cJ, 41, .inr (.inl (aL rw)))), ((ma 12), .inl (cA, 2, .inl (aR rt)))] H) (hD : va_D A [((ma 0), .inr (5, [.int (iZ (cd)), .ref ((ma 1)), .ref ((ma 2)), .ref ((ma 3)), .ref ((ma 4)), .ref ((ma 5)), .int (iZ (td)), .int (iZ (mn)), .ref ((ma 6)), .ref ((ma 7)), .ref ((ma 8)), .ref ((ma 9)), .ref ((ma 10)), .ref ((ma 11)), .ref ((ma 12))])), ((ma 1), .inl (cA, 3, .inl (aR f))), ((ma 2), .inl (cA, 5, .inl (aR g))), ((ma 3), .inl (cJ, 5, .inr (.inl (aL rs)))), ((ma 4), .inl (cJ, 3, .inr (.inl (aL ww)))), ((ma 5), .inl (cJ, 5, .inr (.inl (aL mo)))), ((ma 6), .inl (cA, 2, .inl (aR dg))), ((ma 7), .inl (cJ, 26, .inr (.inl (aL pl)))), ((ma 8), .inl (cJ, 6, .inr (.inl (aL sl)))), ((ma 9), .inl (cJ, 20, .inr (.inl (aL (L3 ww mo tl d k))))), ((ma 10), .inl (cJ, 13, .inr (.inl (aL tl)))), ((ma 11), .inl (cJ, 41, .inr (.inl (aL rw)))), ((ma 12), .inl (cA, 2, .inl (aR rt)))]) (hS : va_S A s.heap H locs) (ls : Array Slot) (hl : lv_has ls 5 [(4, .int (iZ (k))), (2, .long (lZ (tl d))), (1, .int (iZ (d))), (0, .ref ((ma 0)))]), W p l e ({ frames := 1, cells := 0, slots := 0, locals := 23 } : Room) s m ([.ref ((ma 0))] : List Value).toArray below meth c H locs 0 0 (MQ below (va_Qv (fun u : MS => LTz ww mo tl = u.2.2.2.2.2.2.1 ∧ rs = u.1 ∧ ww = u.2.1 ∧ mo = u.2.2.1 ∧ dg = u.2.2.2.1 ∧ pl = u.2.2.2.2.1 ∧ sl = u.2.2.2.2.2.1 ∧ tl = u.2.2.2.2.2.2.2.1 ∧ rw = u.2.2.2.2.2.2.2.2.1 ∧ rt = u.2.2.2.2.2.2.2.2.2.1 ∧ cd = u.2.2.2.2.2.2.2.2.2.2.1 ∧ td = u.2.2.2.2.2.2.2.2.2.2.2.1 ∧ mn = u.2.2.2.2.2.2.2.2.2.2.2.2) (fun (u : MS) t => wB (dC, dI) vC A (mW cA cJ ma f g u) t) A) ([.ref ((ma 0))] : List Value).toArray s 0 0 A) (F0 m 146 ls []) := by
                          intro m_146
                          induction m_146 with
                          | zero =>
                            intro k hk hmeas
                            exfalso; omega
                          | succ m_146 ih_146 =>
                            intro k hk hmeas H locs hP hD hS ls hl
                            refine lv_iload hx hb d_Mod_make_146 (lv_at hl 0 rfl) ?_
                            refine lv_iconst (v := iZ (2)) hx hb d_Mod_make_148 rfl ?_
                            refine z_icmp_ge (tgt := 202) hx hb d_Mod_make_149 (by decide) (by omega) (by omega) (fun c_149 => ?_) (fun c_149 => ?_)
                            · rw [show k = 2 by omega, L34] at hP hD
                              refine lv_iconst (v := iZ (0)) hx hb d_Mod_make_202 rfl ?_
                              refine lv_istore (lv' := [(4, .int (iZ (0))), (2, .long (lZ (tl d))), (1, .int (iZ (d))), (0, .ref ((ma 0)))]) hx hb d_Mod_make_203 hl (by decide) rfl (fun ls hl => ?_)
                              have loop_205 : ∀ (m_205 : Nat) (k : Int) (hk : 0 ≤ k ∧ k ≤ 5) (hmeas : 5 - k < (m_205 : Int)) (H : Heap) (locs : List Loc) (hP : va_P (dC, dI) vC [((ma 0), .inr (5, [.int (iZ (cd)), .ref ((ma 1)), .ref ((ma 2)), .ref ((ma 3)), .ref ((ma 4)), .ref ((ma 5)), .int (iZ (td)), .int (iZ (mn)), .ref ((ma 6)), .ref ((ma 7)), .ref ((ma 8)), .ref ((ma 9)), .ref ((ma 10)), .ref ((ma 11)), .ref ((ma 12))])), ((ma 1), .inl (cA, 3, .inl (aR f))), ((ma 2), .inl (cA, 5, .inl (aR g))), ((ma 3), .inl (cJ, 5, .inr (.inl (aL rs)))), ((ma 4), .inl (cJ, 3, .inr (.inl (aL ww)))), ((ma 5), .inl (cJ, 5, .inr (.inl (aL mo)))), ((ma 6), .inl (cA, 2, .inl (aR dg))), ((ma 7), .inl (cJ, 26, .inr (.inl (aL pl)))), ((ma 8), .inl (cJ, 6, .inr (.inl (aL sl)))), ((ma 9), .inl (cJ, 20, .inr (.inl (aL (L4 ww mo tl d k))))), ((ma 10), .inl (cJ, 13, .inr (.inl (aL tl)))), ((ma 11), .inl (cJ, 41, .inr (.inl (aL rw)))), ((ma 12), .inl (cA, 2, .inl (aR rt)))] H) (hD : va_D A [((ma 0), .inr (5, [.int (iZ (cd)), .ref ((ma 1)), .ref ((ma 2)), .ref ((ma 3)), .ref ((ma 4)), .ref ((ma 5)), .int (iZ (td)), .int (iZ (mn)), .ref ((ma 6)), .ref ((ma 7)), .ref ((ma 8)), .ref ((ma 9)), .ref ((ma 10)), .ref ((ma 11)), .ref ((ma 12))])), ((ma 1), .inl (cA, 3, .inl (aR f))), ((ma 2), .inl (cA, 5, .inl (aR g))), ((ma 3), .inl (cJ, 5, .inr (.inl (aL rs)))), ((ma 4), .inl (cJ, 3, .inr (.inl (aL ww)))), ((ma 5), .inl (cJ, 5, .inr (.inl (aL mo)))), ((ma 6), .inl (cA, 2, .inl (aR dg))), ((ma 7), .inl (cJ, 26, .inr (.inl (aL pl)))), ((ma 8), .inl (cJ, 6, .inr (.inl (aL sl)))), ((ma 9), .inl (cJ, 20, .inr (.inl (aL (L4 ww mo tl d k))))), ((ma 10), .inl (cJ, 13, .inr (.inl (aL tl)))), ((ma 11), .inl (cJ, 41, .inr (.inl (aL rw)))), ((ma 12), .inl (cA, 2, .inl (aR rt)))]) (hS : va_S A s.heap H locs) (ls : Array Slot) (hl : lv_has ls 5 [(4, .int (iZ (k))), (2, .long (lZ (tl d))), (1, .int (iZ (d))), (0, .ref ((ma 0)))]), W p l e ({ frames := 1, cells := 0, slots := 0, locals := 23 } : Room) s m ([.ref ((ma 0))] : List Value).toArray below meth c H locs 0 0 (MQ below (va_Qv (fun u : MS => LTz ww mo tl = u.2.2.2.2.2.2.1 ∧ rs = u.1 ∧ ww = u.2.1 ∧ mo = u.2.2.1 ∧ dg = u.2.2.2.1 ∧ pl = u.2.2.2.2.1 ∧ sl = u.2.2.2.2.2.1 ∧ tl = u.2.2.2.2.2.2.2.1 ∧ rw = u.2.2.2.2.2.2.2.2.1 ∧ rt = u.2.2.2.2.2.2.2.2.2.1 ∧ cd = u.2.2.2.2.2.2.2.2.2.2.1 ∧ td = u.2.2.2.2.2.2.2.2.2.2.2.1 ∧ mn = u.2.2.2.2.2.2.2.2.2.2.2.2) (fun (u : MS) t => wB (dC, dI) vC A (mW cA cJ ma f g u) t) A) ([.ref ((ma 0))] : List Value).toArray s 0 0 A) (F0 m 205 ls []) := by
                                intro m_205
                                induction m_205 with
                                | zero =>
                                  intro k hk hmeas
                                  exfalso; omega
                                | succ m_205 ih_205 =>
                                  intro k hk hmeas H locs hP hD hS ls hl
                                  refine lv_iload hx hb d_Mod_make_205 (lv_at hl 0 rfl) ?_
                                  refine lv_iconst (v := iZ (5)) hx hb d_Mod_make_207 rfl ?_
                                  refine z_icmp_ge (tgt := 248) hx hb d_Mod_make_208 (by decide) (by omega) (by omega) (fun c_208 => ?_) (fun c_208 => ?_)
                                  · rw [show k = 5 by omega, L40 hw3 hm5 (by omega)] at hP hD
                                    refine z_iinc (lv' := [(1, .int (iZ (d + 1))), (4, .int (iZ (k))), (2, .long (lZ (tl d))), (0, .ref ((ma 0)))]) hx hb d_Mod_make_248 hl (k := 2) rfl (by decide) rfl (fun ls hl => ?_)
                                    refine lv_goto (tgt := 23) hx hb d_Mod_make_251 (by decide) ?_
                                    exact ih_23 (d + 1) (by omega) (by omega) _ _ hP hD hS ls (lv_sub hl [0, 3] rfl)
                                  · refine lv_aload_n hx hb d_Mod_make_211 rfl (lv_at hl 3 rfl) ?_
                                    refine va_get (D := (dC, dI)) (ci := 5) (v := .ref ((ma 9))) (C := "OrderTwoCasesModel") (T := F_Mod) (N := 15) hx hb hts la_Mod hown hK hP 0 rfl rfl 11 (by decide) (hts _ k_475) (fun _ h9 => h9) rfl d_Mod_make_212 ?_
                                    refine lv_iload_n hx hb d_Mod_make_215 rfl (lv_at hl 2 rfl) ?_
                                    refine lv_iload hx hb d_Mod_make_216 (lv_at hl 0 rfl) ?_
                                    refine z_iadd hx hb d_Mod_make_218 ?_
                                    refine lv_aload_n hx hb d_Mod_make_219 rfl (lv_at hl 3 rfl) ?_
                                    refine va_get (D := (dC, dI)) (ci := 5) (v := .ref ((ma 9))) (C := "OrderTwoCasesModel") (T := F_Mod) (N := 15) hx hb hts la_Mod hown hK hP 0 rfl rfl 11 (by decide) (hts _ k_475) (fun _ h9 => h9) rfl d_Mod_make_220 ?_
                                    refine lv_iload_n hx hb d_Mod_make_223 rfl (lv_at hl 2 rfl) ?_
                                    refine lv_iload hx hb d_Mod_make_224 (lv_at hl 0 rfl) ?_
                                    refine z_iadd hx hb d_Mod_make_226 ?_
                                    have hl9 := (show 0 ≤ L4 ww mo tl d k (d + k) ∧ L4 ww mo tl d k (d + k) < 32003 from md_r _)
                                    have hd9 := mul_bd hv9 (hm5.r k)
                                    refine z_lald hx hb hK hP 9 1 rfl rfl (by omega) (by omega) (by omega) d_Mod_make_227 ?_
                                    refine lv_lload_n hx hb d_Mod_make_228 rfl (lv_at hl 1 rfl) ?_
                                    refine lv_aload_n hx hb d_Mod_make_229 rfl (lv_at hl 3 rfl) ?_
                                    refine va_get (D := (dC, dI)) (ci := 5) (v := .ref ((ma 5))) (C := "OrderTwoCasesModel") (T := F_Mod) (N := 15) hx hb hts la_Mod hown hK hP 0 rfl rfl 5 (by decide) (hts _ k_469) (fun _ h9 => h9) rfl d_Mod_make_230 ?_
                                    refine lv_iload hx hb d_Mod_make_233 (lv_at hl 0 rfl) ?_
                                    refine z_lald hx hb hK hP 5 1 rfl rfl (by omega) (by omega) (by omega) d_Mod_make_235 ?_
                                    refine z_lmul hx hb d_Mod_make_236 ?_
                                    refine z_lsub hx hb d_Mod_make_237 ?_
                                    refine w_rdl (va_runS (As := [.long (lZ (((L4 ww mo tl d k) (d + k)) - ((tl d) * (mo k))))]) (rest := [.int (iZ (d + k)), .ref ((ma 9))]) ⟨hx, hb, hml, hown, hts⟩ (c_modulo l (((L4 ww mo tl d k) (d + k)) - ((tl d) * (mo k))) (by omega)) (va_cwS 1 hts g_Mod_61 rfl rfl rfl (by decide +kernel) ⟨Nat.le_of_ble_eq_true rfl, Nat.le_of_ble_eq_true rfl⟩) preEq rfl rfl hl.1 rfl (lv_room (Nat.le_of_ble_eq_true rfl)) d_Mod_make_238 ⟨Nat.le_of_ble_eq_true rfl, Nat.le_of_ble_eq_true rfl⟩) ?_
                                    have hm_238 := md_r (((L4 ww mo tl d k) (d + k)) - ((tl d) * (mo k)))
                                    refine z_last (wf := [((ma 0), .inr (5, [.int (iZ (cd)), .ref ((ma 1)), .ref ((ma 2)), .ref ((ma 3)), .ref ((ma 4)), .ref ((ma 5)), .int (iZ (td)), .int (iZ (mn)), .ref ((ma 6)), .ref ((ma 7)), .ref ((ma 8)), .ref ((ma 9)), .ref ((ma 10)), .ref ((ma 11)), .ref ((ma 12))])), ((ma 1), .inl (cA, 3, .inl (aR f))), ((ma 2), .inl (cA, 5, .inl (aR g))), ((ma 3), .inl (cJ, 5, .inr (.inl (aL rs)))), ((ma 4), .inl (cJ, 3, .inr (.inl (aL ww)))), ((ma 5), .inl (cJ, 5, .inr (.inl (aL mo)))), ((ma 6), .inl (cA, 2, .inl (aR dg))), ((ma 7), .inl (cJ, 26, .inr (.inl (aL pl)))), ((ma 8), .inl (cJ, 6, .inr (.inl (aL sl)))), ((ma 9), .inl (cJ, 20, .inr (.inl (aL (sT (L4 ww mo tl d k) (d + k) (md (((L4 ww mo tl d k) (d + k)) - ((tl d) * (mo k))))))))), ((ma 10), .inl (cJ, 13, .inr (.inl (aL tl)))), ((ma 11), .inl (cJ, 41, .inr (.inl (aL rw)))), ((ma 12), .inl (cA, 2, .inl (aR rt)))]) hx hb hK hP hD hS 9 1 rfl rfl (by omega) (by omega) (by omega) d_Mod_make_241 rfl (fun H locs hP hD hS => ?_)
                                    rw [L4_up (by omega)] at hP hD
                                    refine z_iinc (lv' := [(4, .int (iZ (k + 1))), (2, .long (lZ (tl d))), (1, .int (iZ (d))), (0, .ref ((ma 0)))]) hx hb d_Mod_make_242 hl (k := 0) rfl (by decide) rfl (fun ls hl => ?_)
                                    refine lv_goto (tgt := 205) hx hb d_Mod_make_245 (by decide) ?_
                                    exact ih_205 (k + 1) (by omega) (by omega) _ _ hP hD hS ls (lv_sub hl [0, 1, 2, 3] rfl)
                              exact loop_205 6 0 (by omega) (by omega) _ _ hP hD hS ls (lv_sub hl [0, 1, 2, 3] rfl)
                            · refine lv_aload_n hx hb d_Mod_make_152 rfl (lv_at hl 3 rfl) ?_
                              refine va_get (D := (dC, dI)) (ci := 5) (v := .ref ((ma 9))) (C := "OrderTwoCasesModel") (T := F_Mod) (N := 15) hx hb hts la_Mod hown hK hP 0 rfl rfl 11 (by decide) (hts _ k_475) (fun _ h9 => h9) rfl d_Mod_make_153 ?_
                              refine lv_iload_n hx hb d_Mod_make_156 rfl (lv_at hl 2 rfl) ?_
                              refine lv_iload hx hb d_Mod_make_157 (lv_at hl 0 rfl) ?_
                              refine z_iadd hx hb d_Mod_make_159 ?_
                              refine lv_aload_n hx hb d_Mod_make_160 rfl (lv_at hl 3 rfl) ?_
                              refine va_get (D := (dC, dI)) (ci := 5) (v := .ref ((ma 9))) (C := "OrderTwoCasesModel") (T := F_Mod) (N := 15) hx hb hts la_Mod hown hK hP 0 rfl rfl 11 (by decide) (hts _ k_475) (fun _ h9 => h9) rfl d_Mod_make_161 ?_
                              refine lv_iload_n hx hb d_Mod_make_164 rfl (lv_at hl 2 rfl) ?_
                              refine lv_iload hx hb d_Mod_make_165 (lv_at hl 0 rfl) ?_
                              refine z_iadd hx hb d_Mod_make_167 ?_
                              have hl9 := (show 0 ≤ L3 ww mo tl d k (d + k) ∧ L3 ww mo tl d k (d + k) < 32003 from md_r _)
                              have hd9 := mul_bdc 3 hv9 (show 0 ≤ k + 1 ∧ k + 1 ≤ 3 by omega)
                              have hd8 := mul_bd (md_r (tl d * (k + 1))) (hw3.r (k + 1))
                              refine z_lald hx hb hK hP 9 1 rfl rfl (by omega) (by omega) (by omega) d_Mod_make_168 ?_
                              refine lv_lload_n hx hb d_Mod_make_169 rfl (lv_at hl 1 rfl) ?_
                              refine lv_iload hx hb d_Mod_make_170 (lv_at hl 0 rfl) ?_
                              refine lv_iconst (v := iZ (1)) hx hb d_Mod_make_172 rfl ?_
                              refine z_iadd hx hb d_Mod_make_173 ?_
                              refine z_i2l hx hb d_Mod_make_174 (by omega) ?_
                              refine z_lmul hx hb d_Mod_make_175 ?_
                              refine lv_ldc2 (v := lZ (32003)) hx hb hown (show (Jvm.Cond.constantLong "OrderTwoCasesModel" 51 (lZ (32003))).before _ s = true from hts _ k_527) d_Mod_make_176 ?_
                              refine z_lremmd hx hb d_Mod_make_179 (by omega) ?_
                              refine lv_aload_n hx hb d_Mod_make_180 rfl (lv_at hl 3 rfl) ?_
                              refine va_get (D := (dC, dI)) (ci := 5) (v := .ref ((ma 4))) (C := "OrderTwoCasesModel") (T := F_Mod) (N := 15) hx hb hts la_Mod hown hK hP 0 rfl rfl 4 (by decide) (hts _ k_468) (fun _ h9 => h9) rfl d_Mod_make_181 ?_
                              refine lv_iload hx hb d_Mod_make_184 (lv_at hl 0 rfl) ?_
                              refine lv_iconst (v := iZ (1)) hx hb d_Mod_make_186 rfl ?_
                              refine z_iadd hx hb d_Mod_make_187 ?_
                              refine z_lald hx hb hK hP 4 1 rfl rfl (by omega) (by omega) (by omega) d_Mod_make_188 ?_
                              refine z_lmul hx hb d_Mod_make_189 ?_
                              refine z_ladd hx hb d_Mod_make_190 ?_
                              refine lv_ldc2 (v := lZ (32003)) hx hb hown (show (Jvm.Cond.constantLong "OrderTwoCasesModel" 51 (lZ (32003))).before _ s = true from hts _ k_527) d_Mod_make_191 ?_
                              refine z_lremmd hx hb d_Mod_make_194 (by omega) ?_
                              refine z_last (wf := [((ma 0), .inr (5, [.int (iZ (cd)), .ref ((ma 1)), .ref ((ma 2)), .ref ((ma 3)), .ref ((ma 4)), .ref ((ma 5)), .int (iZ (td)), .int (iZ (mn)), .ref ((ma 6)), .ref ((ma 7)), .ref ((ma 8)), .ref ((ma 9)), .ref ((ma 10)), .ref ((ma 11)), .ref ((ma 12))])), ((ma 1), .inl (cA, 3, .inl (aR f))), ((ma 2), .inl (cA, 5, .inl (aR g))), ((ma 3), .inl (cJ, 5, .inr (.inl (aL rs)))), ((ma 4), .inl (cJ, 3, .inr (.inl (aL ww)))), ((ma 5), .inl (cJ, 5, .inr (.inl (aL mo)))), ((ma 6), .inl (cA, 2, .inl (aR dg))), ((ma 7), .inl (cJ, 26, .inr (.inl (aL pl)))), ((ma 8), .inl (cJ, 6, .inr (.inl (aL sl)))), ((ma 9), .inl (cJ, 20, .inr (.inl (aL (sT (L3 ww mo tl d k) (d + k) (md (((L3 ww mo tl d k) (d + k)) + ((md ((tl d) * (k + 1))) * (ww (k + 1)))))))))), ((ma 10), .inl (cJ, 13, .inr (.inl (aL tl)))), ((ma 11), .inl (cJ, 41, .inr (.inl (aL rw)))), ((ma 12), .inl (cA, 2, .inl (aR rt)))]) hx hb hK hP hD hS 9 1 rfl rfl (by omega) (by omega) (by omega) d_Mod_make_195 rfl (fun H locs hP hD hS => ?_)
                              rw [L3_up (by omega)] at hP hD
                              refine z_iinc (lv' := [(4, .int (iZ (k + 1))), (2, .long (lZ (tl d))), (1, .int (iZ (d))), (0, .ref ((ma 0)))]) hx hb d_Mod_make_196 hl (k := 0) rfl (by decide) rfl (fun ls hl => ?_)
                              refine lv_goto (tgt := 146) hx hb d_Mod_make_199 (by decide) ?_
                              exact ih_146 (k + 1) (by omega) (by omega) _ _ hP hD hS ls (lv_sub hl [0, 1, 2, 3] rfl)
                        exact loop_146 3 0 (by omega) (by omega) _ _ hP hD hS ls (lv_sub hl [0, 1, 2, 3] rfl)
                      · refine lv_iload_n hx hb d_Mod_make_88 rfl (lv_at hl 2 rfl) ?_
                        refine z_if_le (tgt := 143) hx hb d_Mod_make_89 (by decide) (by omega) (fun c_89 => ?_) (fun c_89 => ?_)
                        · have hE3 : L2 ww mo tl d k = L3 ww mo tl d 0 := by
                            by_cases q : d ≤ 0
                            · rw [show k = 0 by omega]; exact L23_0 (by omega)
                            · rw [show k = 3 by omega]; exact L23 _ _ _ _
                          rw [hE3] at hP hD
                          refine lv_iconst (v := iZ (0)) hx hb d_Mod_make_143 rfl ?_
                          refine lv_istore (lv' := [(4, .int (iZ (0))), (2, .long (lZ (tl d))), (1, .int (iZ (d))), (0, .ref ((ma 0)))]) hx hb d_Mod_make_144 hl (by decide) rfl (fun ls hl => ?_)
                          have loop_146 : ∀ (m_146 : Nat) (k : Int) (hk : 0 ≤ k ∧ k ≤ 2) (hmeas : 2 - k < (m_146 : Int)) (H : Heap) (locs : List Loc) (hP : va_P (dC, dI) vC [((ma 0), .inr (5, [.int (iZ (cd)), .ref ((ma 1)), .ref ((ma 2)), .ref ((ma 3)), .ref ((ma 4)), .ref ((ma 5)), .int (iZ (td)), .int (iZ (mn)), .ref ((ma 6)), .ref ((ma 7)), .ref ((ma 8)), .ref ((ma 9)), .ref ((ma 10)), .ref ((ma 11)), .ref ((ma 12))])), ((ma 1), .inl (cA, 3, .inl (aR f))), ((ma 2), .inl (cA, 5, .inl (aR g))), ((ma 3), .inl (cJ, 5, .inr (.inl (aL rs)))), ((ma 4), .inl (cJ, 3, .inr (.inl (aL ww)))), ((ma 5), .inl (cJ, 5, .inr (.inl (aL mo)))), ((ma 6), .inl (cA, 2, .inl (aR dg))), ((ma 7), .inl (cJ, 26, .inr (.inl (aL pl)))), ((ma 8), .inl (cJ, 6, .inr (.inl (aL sl)))), ((ma 9), .inl (cJ, 20, .inr (.inl (aL (L3 ww mo tl d k))))), ((ma 10), .inl (cJ, 13, .inr (.inl (aL tl)))), ((ma 11), .inl (cJ, 41, .inr (.inl (aL rw)))), ((ma 12), .inl (cA, 2, .inl (aR rt)))] H) (hD : va_D A [((ma 0), .inr (5, [.int (iZ (cd)), .ref ((ma 1)), .ref ((ma 2)), .ref ((ma 3)), .ref ((ma 4)), .ref ((ma 5)), .int (iZ (td)), .int (iZ (mn)), .ref ((ma 6)), .ref ((ma 7)), .ref ((ma 8)), .ref ((ma 9)), .ref ((ma 10)), .ref ((ma 11)), .ref ((ma 12))])), ((ma 1), .inl (cA, 3, .inl (aR f))), ((ma 2), .inl (cA, 5, .inl (aR g))), ((ma 3), .inl (cJ, 5, .inr (.inl (aL rs)))), ((ma 4), .inl (cJ, 3, .inr (.inl (aL ww)))), ((ma 5), .inl (cJ, 5, .inr (.inl (aL mo)))), ((ma 6), .inl (cA, 2, .inl (aR dg))), ((ma 7), .inl (cJ, 26, .inr (.inl (aL pl)))), ((ma 8), .inl (cJ, 6, .inr (.inl (aL sl)))), ((ma 9), .inl (cJ, 20, .inr (.inl (aL (L3 ww mo tl d k))))), ((ma 10), .inl (cJ, 13, .inr (.inl (aL tl)))), ((ma 11), .inl (cJ, 41, .inr (.inl (aL rw)))), ((ma 12), .inl (cA, 2, .inl (aR rt)))]) (hS : va_S A s.heap H locs) (ls : Array Slot) (hl : lv_has ls 5 [(4, .int (iZ (k))), (2, .long (lZ (tl d))), (1, .int (iZ (d))), (0, .ref ((ma 0)))]), W p l e ({ frames := 1, cells := 0, slots := 0, locals := 23 } : Room) s m ([.ref ((ma 0))] : List Value).toArray below meth c H locs 0 0 (MQ below (va_Qv (fun u : MS => LTz ww mo tl = u.2.2.2.2.2.2.1 ∧ rs = u.1 ∧ ww = u.2.1 ∧ mo = u.2.2.1 ∧ dg = u.2.2.2.1 ∧ pl = u.2.2.2.2.1 ∧ sl = u.2.2.2.2.2.1 ∧ tl = u.2.2.2.2.2.2.2.1 ∧ rw = u.2.2.2.2.2.2.2.2.1 ∧ rt = u.2.2.2.2.2.2.2.2.2.1 ∧ cd = u.2.2.2.2.2.2.2.2.2.2.1 ∧ td = u.2.2.2.2.2.2.2.2.2.2.2.1 ∧ mn = u.2.2.2.2.2.2.2.2.2.2.2.2) (fun (u : MS) t => wB (dC, dI) vC A (mW cA cJ ma f g u) t) A) ([.ref ((ma 0))] : List Value).toArray s 0 0 A) (F0 m 146 ls []) := by
                            intro m_146
                            induction m_146 with
                            | zero =>
                              intro k hk hmeas
                              exfalso; omega
                            | succ m_146 ih_146 =>
                              intro k hk hmeas H locs hP hD hS ls hl
                              refine lv_iload hx hb d_Mod_make_146 (lv_at hl 0 rfl) ?_
                              refine lv_iconst (v := iZ (2)) hx hb d_Mod_make_148 rfl ?_
                              refine z_icmp_ge (tgt := 202) hx hb d_Mod_make_149 (by decide) (by omega) (by omega) (fun c_149 => ?_) (fun c_149 => ?_)
                              · rw [show k = 2 by omega, L34] at hP hD
                                refine lv_iconst (v := iZ (0)) hx hb d_Mod_make_202 rfl ?_
                                refine lv_istore (lv' := [(4, .int (iZ (0))), (2, .long (lZ (tl d))), (1, .int (iZ (d))), (0, .ref ((ma 0)))]) hx hb d_Mod_make_203 hl (by decide) rfl (fun ls hl => ?_)
                                have loop_205 : ∀ (m_205 : Nat) (k : Int) (hk : 0 ≤ k ∧ k ≤ 5) (hmeas : 5 - k < (m_205 : Int)) (H : Heap) (locs : List Loc) (hP : va_P (dC, dI) vC [((ma 0), .inr (5, [.int (iZ (cd)), .ref ((ma 1)), .ref ((ma 2)), .ref ((ma 3)), .ref ((ma 4)), .ref ((ma 5)), .int (iZ (td)), .int (iZ (mn)), .ref ((ma 6)), .ref ((ma 7)), .ref ((ma 8)), .ref ((ma 9)), .ref ((ma 10)), .ref ((ma 11)), .ref ((ma 12))])), ((ma 1), .inl (cA, 3, .inl (aR f))), ((ma 2), .inl (cA, 5, .inl (aR g))), ((ma 3), .inl (cJ, 5, .inr (.inl (aL rs)))), ((ma 4), .inl (cJ, 3, .inr (.inl (aL ww)))), ((ma 5), .inl (cJ, 5, .inr (.inl (aL mo)))), ((ma 6), .inl (cA, 2, .inl (aR dg))), ((ma 7), .inl (cJ, 26, .inr (.inl (aL pl)))), ((ma 8), .inl (cJ, 6, .inr (.inl (aL sl)))), ((ma 9), .inl (cJ, 20, .inr (.inl (aL (L4 ww mo tl d k))))), ((ma 10), .inl (cJ, 13, .inr (.inl (aL tl)))), ((ma 11), .inl (cJ, 41, .inr (.inl (aL rw)))), ((ma 12), .inl (cA, 2, .inl (aR rt)))] H) (hD : va_D A [((ma 0), .inr (5, [.int (iZ (cd)), .ref ((ma 1)), .ref ((ma 2)), .ref ((ma 3)), .ref ((ma 4)), .ref ((ma 5)), .int (iZ (td)), .int (iZ (mn)), .ref ((ma 6)), .ref ((ma 7)), .ref ((ma 8)), .ref ((ma 9)), .ref ((ma 10)), .ref ((ma 11)), .ref ((ma 12))])), ((ma 1), .inl (cA, 3, .inl (aR f))), ((ma 2), .inl (cA, 5, .inl (aR g))), ((ma 3), .inl (cJ, 5, .inr (.inl (aL rs)))), ((ma 4), .inl (cJ, 3, .inr (.inl (aL ww)))), ((ma 5), .inl (cJ, 5, .inr (.inl (aL mo)))), ((ma 6), .inl (cA, 2, .inl (aR dg))), ((ma 7), .inl (cJ, 26, .inr (.inl (aL pl)))), ((ma 8), .inl (cJ, 6, .inr (.inl (aL sl)))), ((ma 9), .inl (cJ, 20, .inr (.inl (aL (L4 ww mo tl d k))))), ((ma 10), .inl (cJ, 13, .inr (.inl (aL tl)))), ((ma 11), .inl (cJ, 41, .inr (.inl (aL rw)))), ((ma 12), .inl (cA, 2, .inl (aR rt)))]) (hS : va_S A s.heap H locs) (ls : Array Slot) (hl : lv_has ls 5 [(4, .int (iZ (k))), (2, .long (lZ (tl d))), (1, .int (iZ (d))), (0, .ref ((ma 0)))]), W p l e ({ frames := 1, cells := 0, slots := 0, locals := 23 } : Room) s m ([.ref ((ma 0))] : List Value).toArray below meth c H locs 0 0 (MQ below (va_Qv (fun u : MS => LTz ww mo tl = u.2.2.2.2.2.2.1 ∧ rs = u.1 ∧ ww = u.2.1 ∧ mo = u.2.2.1 ∧ dg = u.2.2.2.1 ∧ pl = u.2.2.2.2.1 ∧ sl = u.2.2.2.2.2.1 ∧ tl = u.2.2.2.2.2.2.2.1 ∧ rw = u.2.2.2.2.2.2.2.2.1 ∧ rt = u.2.2.2.2.2.2.2.2.2.1 ∧ cd = u.2.2.2.2.2.2.2.2.2.2.1 ∧ td = u.2.2.2.2.2.2.2.2.2.2.2.1 ∧ mn = u.2.2.2.2.2.2.2.2.2.2.2.2) (fun (u : MS) t => wB (dC, dI) vC A (mW cA cJ ma f g u) t) A) ([.ref ((ma 0))] : List Value).toArray s 0 0 A) (F0 m 205 ls []) := by
                                  intro m_205
                                  induction m_205 with
                                  | zero =>
                                    intro k hk hmeas
                                    exfalso; omega
                                  | succ m_205 ih_205 =>
                                    intro k hk hmeas H locs hP hD hS ls hl
                                    refine lv_iload hx hb d_Mod_make_205 (lv_at hl 0 rfl) ?_
                                    refine lv_iconst (v := iZ (5)) hx hb d_Mod_make_207 rfl ?_
                                    refine z_icmp_ge (tgt := 248) hx hb d_Mod_make_208 (by decide) (by omega) (by omega) (fun c_208 => ?_) (fun c_208 => ?_)
                                    · rw [show k = 5 by omega, L40 hw3 hm5 (by omega)] at hP hD
                                      refine z_iinc (lv' := [(1, .int (iZ (d + 1))), (4, .int (iZ (k))), (2, .long (lZ (tl d))), (0, .ref ((ma 0)))]) hx hb d_Mod_make_248 hl (k := 2) rfl (by decide) rfl (fun ls hl => ?_)
                                      refine lv_goto (tgt := 23) hx hb d_Mod_make_251 (by decide) ?_
                                      exact ih_23 (d + 1) (by omega) (by omega) _ _ hP hD hS ls (lv_sub hl [0, 3] rfl)
                                    · refine lv_aload_n hx hb d_Mod_make_211 rfl (lv_at hl 3 rfl) ?_
                                      refine va_get (D := (dC, dI)) (ci := 5) (v := .ref ((ma 9))) (C := "OrderTwoCasesModel") (T := F_Mod) (N := 15) hx hb hts la_Mod hown hK hP 0 rfl rfl 11 (by decide) (hts _ k_475) (fun _ h9 => h9) rfl d_Mod_make_212 ?_
                                      refine lv_iload_n hx hb d_Mod_make_215 rfl (lv_at hl 2 rfl) ?_
                                      refine lv_iload hx hb d_Mod_make_216 (lv_at hl 0 rfl) ?_
                                      refine z_iadd hx hb d_Mod_make_218 ?_
                                      refine lv_aload_n hx hb d_Mod_make_219 rfl (lv_at hl 3 rfl) ?_
                                      refine va_get (D := (dC, dI)) (ci := 5) (v := .ref ((ma 9))) (C := "OrderTwoCasesModel") (T := F_Mod) (N := 15) hx hb hts la_Mod hown hK hP 0 rfl rfl 11 (by decide) (hts _ k_475) (fun _ h9 => h9) rfl d_Mod_make_220 ?_
                                      refine lv_iload_n hx hb d_Mod_make_223 rfl (lv_at hl 2 rfl) ?_
                                      refine lv_iload hx hb d_Mod_make_224 (lv_at hl 0 rfl) ?_
                                      refine z_iadd hx hb d_Mod_make_226 ?_
                                      have hl9 := (show 0 ≤ L4 ww mo tl d k (d + k) ∧ L4 ww mo tl d k (d + k) < 32003 from md_r _)
                                      have hd9 := mul_bd hv9 (hm5.r k)
                                      refine z_lald hx hb hK hP 9 1 rfl rfl (by omega) (by omega) (by omega) d_Mod_make_227 ?_
                                      refine lv_lload_n hx hb d_Mod_make_228 rfl (lv_at hl 1 rfl) ?_
                                      refine lv_aload_n hx hb d_Mod_make_229 rfl (lv_at hl 3 rfl) ?_
                                      refine va_get (D := (dC, dI)) (ci := 5) (v := .ref ((ma 5))) (C := "OrderTwoCasesModel") (T := F_Mod) (N := 15) hx hb hts la_Mod hown hK hP 0 rfl rfl 5 (by decide) (hts _ k_469) (fun _ h9 => h9) rfl d_Mod_make_230 ?_
                                      refine lv_iload hx hb d_Mod_make_233 (lv_at hl 0 rfl) ?_
                                      refine z_lald hx hb hK hP 5 1 rfl rfl (by omega) (by omega) (by omega) d_Mod_make_235 ?_
                                      refine z_lmul hx hb d_Mod_make_236 ?_
                                      refine z_lsub hx hb d_Mod_make_237 ?_
                                      refine w_rdl (va_runS (As := [.long (lZ (((L4 ww mo tl d k) (d + k)) - ((tl d) * (mo k))))]) (rest := [.int (iZ (d + k)), .ref ((ma 9))]) ⟨hx, hb, hml, hown, hts⟩ (c_modulo l (((L4 ww mo tl d k) (d + k)) - ((tl d) * (mo k))) (by omega)) (va_cwS 1 hts g_Mod_61 rfl rfl rfl (by decide +kernel) ⟨Nat.le_of_ble_eq_true rfl, Nat.le_of_ble_eq_true rfl⟩) preEq rfl rfl hl.1 rfl (lv_room (Nat.le_of_ble_eq_true rfl)) d_Mod_make_238 ⟨Nat.le_of_ble_eq_true rfl, Nat.le_of_ble_eq_true rfl⟩) ?_
                                      have hm_238 := md_r (((L4 ww mo tl d k) (d + k)) - ((tl d) * (mo k)))
                                      refine z_last (wf := [((ma 0), .inr (5, [.int (iZ (cd)), .ref ((ma 1)), .ref ((ma 2)), .ref ((ma 3)), .ref ((ma 4)), .ref ((ma 5)), .int (iZ (td)), .int (iZ (mn)), .ref ((ma 6)), .ref ((ma 7)), .ref ((ma 8)), .ref ((ma 9)), .ref ((ma 10)), .ref ((ma 11)), .ref ((ma 12))])), ((ma 1), .inl (cA, 3, .inl (aR f))), ((ma 2), .inl (cA, 5, .inl (aR g))), ((ma 3), .inl (cJ, 5, .inr (.inl (aL rs)))), ((ma 4), .inl (cJ, 3, .inr (.inl (aL ww)))), ((ma 5), .inl (cJ, 5, .inr (.inl (aL mo)))), ((ma 6), .inl (cA, 2, .inl (aR dg))), ((ma 7), .inl (cJ, 26, .inr (.inl (aL pl)))), ((ma 8), .inl (cJ, 6, .inr (.inl (aL sl)))), ((ma 9), .inl (cJ, 20, .inr (.inl (aL (sT (L4 ww mo tl d k) (d + k) (md (((L4 ww mo tl d k) (d + k)) - ((tl d) * (mo k))))))))), ((ma 10), .inl (cJ, 13, .inr (.inl (aL tl)))), ((ma 11), .inl (cJ, 41, .inr (.inl (aL rw)))), ((ma 12), .inl (cA, 2, .inl (aR rt)))]) hx hb hK hP hD hS 9 1 rfl rfl (by omega) (by omega) (by omega) d_Mod_make_241 rfl (fun H locs hP hD hS => ?_)
                                      rw [L4_up (by omega)] at hP hD
                                      refine z_iinc (lv' := [(4, .int (iZ (k + 1))), (2, .long (lZ (tl d))), (1, .int (iZ (d))), (0, .ref ((ma 0)))]) hx hb d_Mod_make_242 hl (k := 0) rfl (by decide) rfl (fun ls hl => ?_)
                                      refine lv_goto (tgt := 205) hx hb d_Mod_make_245 (by decide) ?_
                                      exact ih_205 (k + 1) (by omega) (by omega) _ _ hP hD hS ls (lv_sub hl [0, 1, 2, 3] rfl)
                                exact loop_205 6 0 (by omega) (by omega) _ _ hP hD hS ls (lv_sub hl [0, 1, 2, 3] rfl)
                              · refine lv_aload_n hx hb d_Mod_make_152 rfl (lv_at hl 3 rfl) ?_
                                refine va_get (D := (dC, dI)) (ci := 5) (v := .ref ((ma 9))) (C := "OrderTwoCasesModel") (T := F_Mod) (N := 15) hx hb hts la_Mod hown hK hP 0 rfl rfl 11 (by decide) (hts _ k_475) (fun _ h9 => h9) rfl d_Mod_make_153 ?_
                                refine lv_iload_n hx hb d_Mod_make_156 rfl (lv_at hl 2 rfl) ?_
                                refine lv_iload hx hb d_Mod_make_157 (lv_at hl 0 rfl) ?_
                                refine z_iadd hx hb d_Mod_make_159 ?_
                                refine lv_aload_n hx hb d_Mod_make_160 rfl (lv_at hl 3 rfl) ?_
                                refine va_get (D := (dC, dI)) (ci := 5) (v := .ref ((ma 9))) (C := "OrderTwoCasesModel") (T := F_Mod) (N := 15) hx hb hts la_Mod hown hK hP 0 rfl rfl 11 (by decide) (hts _ k_475) (fun _ h9 => h9) rfl d_Mod_make_161 ?_
                                refine lv_iload_n hx hb d_Mod_make_164 rfl (lv_at hl 2 rfl) ?_
                                refine lv_iload hx hb d_Mod_make_165 (lv_at hl 0 rfl) ?_
                                refine z_iadd hx hb d_Mod_make_167 ?_
                                have hl9 := (show 0 ≤ L3 ww mo tl d k (d + k) ∧ L3 ww mo tl d k (d + k) < 32003 from md_r _)
                                have hd9 := mul_bdc 3 hv9 (show 0 ≤ k + 1 ∧ k + 1 ≤ 3 by omega)
                                have hd8 := mul_bd (md_r (tl d * (k + 1))) (hw3.r (k + 1))
                                refine z_lald hx hb hK hP 9 1 rfl rfl (by omega) (by omega) (by omega) d_Mod_make_168 ?_
                                refine lv_lload_n hx hb d_Mod_make_169 rfl (lv_at hl 1 rfl) ?_
                                refine lv_iload hx hb d_Mod_make_170 (lv_at hl 0 rfl) ?_
                                refine lv_iconst (v := iZ (1)) hx hb d_Mod_make_172 rfl ?_
                                refine z_iadd hx hb d_Mod_make_173 ?_
                                refine z_i2l hx hb d_Mod_make_174 (by omega) ?_
                                refine z_lmul hx hb d_Mod_make_175 ?_
                                refine lv_ldc2 (v := lZ (32003)) hx hb hown (show (Jvm.Cond.constantLong "OrderTwoCasesModel" 51 (lZ (32003))).before _ s = true from hts _ k_527) d_Mod_make_176 ?_
                                refine z_lremmd hx hb d_Mod_make_179 (by omega) ?_
                                refine lv_aload_n hx hb d_Mod_make_180 rfl (lv_at hl 3 rfl) ?_
                                refine va_get (D := (dC, dI)) (ci := 5) (v := .ref ((ma 4))) (C := "OrderTwoCasesModel") (T := F_Mod) (N := 15) hx hb hts la_Mod hown hK hP 0 rfl rfl 4 (by decide) (hts _ k_468) (fun _ h9 => h9) rfl d_Mod_make_181 ?_
                                refine lv_iload hx hb d_Mod_make_184 (lv_at hl 0 rfl) ?_
                                refine lv_iconst (v := iZ (1)) hx hb d_Mod_make_186 rfl ?_
                                refine z_iadd hx hb d_Mod_make_187 ?_
                                refine z_lald hx hb hK hP 4 1 rfl rfl (by omega) (by omega) (by omega) d_Mod_make_188 ?_
                                refine z_lmul hx hb d_Mod_make_189 ?_
                                refine z_ladd hx hb d_Mod_make_190 ?_
                                refine lv_ldc2 (v := lZ (32003)) hx hb hown (show (Jvm.Cond.constantLong "OrderTwoCasesModel" 51 (lZ (32003))).before _ s = true from hts _ k_527) d_Mod_make_191 ?_
                                refine z_lremmd hx hb d_Mod_make_194 (by omega) ?_
                                refine z_last (wf := [((ma 0), .inr (5, [.int (iZ (cd)), .ref ((ma 1)), .ref ((ma 2)), .ref ((ma 3)), .ref ((ma 4)), .ref ((ma 5)), .int (iZ (td)), .int (iZ (mn)), .ref ((ma 6)), .ref ((ma 7)), .ref ((ma 8)), .ref ((ma 9)), .ref ((ma 10)), .ref ((ma 11)), .ref ((ma 12))])), ((ma 1), .inl (cA, 3, .inl (aR f))), ((ma 2), .inl (cA, 5, .inl (aR g))), ((ma 3), .inl (cJ, 5, .inr (.inl (aL rs)))), ((ma 4), .inl (cJ, 3, .inr (.inl (aL ww)))), ((ma 5), .inl (cJ, 5, .inr (.inl (aL mo)))), ((ma 6), .inl (cA, 2, .inl (aR dg))), ((ma 7), .inl (cJ, 26, .inr (.inl (aL pl)))), ((ma 8), .inl (cJ, 6, .inr (.inl (aL sl)))), ((ma 9), .inl (cJ, 20, .inr (.inl (aL (sT (L3 ww mo tl d k) (d + k) (md (((L3 ww mo tl d k) (d + k)) + ((md ((tl d) * (k + 1))) * (ww (k + 1)))))))))), ((ma 10), .inl (cJ, 13, .inr (.inl (aL tl)))), ((ma 11), .inl (cJ, 41, .inr (.inl (aL rw)))), ((ma 12), .inl (cA, 2, .inl (aR rt)))]) hx hb hK hP hD hS 9 1 rfl rfl (by omega) (by omega) (by omega) d_Mod_make_195 rfl (fun H locs hP hD hS => ?_)
                                rw [L3_up (by omega)] at hP hD
                                refine z_iinc (lv' := [(4, .int (iZ (k + 1))), (2, .long (lZ (tl d))), (1, .int (iZ (d))), (0, .ref ((ma 0)))]) hx hb d_Mod_make_196 hl (k := 0) rfl (by decide) rfl (fun ls hl => ?_)
                                refine lv_goto (tgt := 146) hx hb d_Mod_make_199 (by decide) ?_
                                exact ih_146 (k + 1) (by omega) (by omega) _ _ hP hD hS ls (lv_sub hl [0, 1, 2, 3] rfl)
                          exact loop_146 3 0 (by omega) (by omega) _ _ hP hD hS ls (lv_sub hl [0, 1, 2, 3] rfl)
                        · refine lv_aload_n hx hb d_Mod_make_92 rfl (lv_at hl 3 rfl) ?_
                          refine va_get (D := (dC, dI)) (ci := 5) (v := .ref ((ma 9))) (C := "OrderTwoCasesModel") (T := F_Mod) (N := 15) hx hb hts la_Mod hown hK hP 0 rfl rfl 11 (by decide) (hts _ k_475) (fun _ h9 => h9) rfl d_Mod_make_93 ?_
                          refine lv_iload_n hx hb d_Mod_make_96 rfl (lv_at hl 2 rfl) ?_
                          refine lv_iconst (v := iZ (1)) hx hb d_Mod_make_97 rfl ?_
                          refine z_isub hx hb d_Mod_make_98 ?_
                          refine lv_iload hx hb d_Mod_make_99 (lv_at hl 0 rfl) ?_
                          refine z_iadd hx hb d_Mod_make_101 ?_
                          refine lv_aload_n hx hb d_Mod_make_102 rfl (lv_at hl 3 rfl) ?_
                          refine va_get (D := (dC, dI)) (ci := 5) (v := .ref ((ma 9))) (C := "OrderTwoCasesModel") (T := F_Mod) (N := 15) hx hb hts la_Mod hown hK hP 0 rfl rfl 11 (by decide) (hts _ k_475) (fun _ h9 => h9) rfl d_Mod_make_103 ?_
                          refine lv_iload_n hx hb d_Mod_make_106 rfl (lv_at hl 2 rfl) ?_
                          refine lv_iconst (v := iZ (1)) hx hb d_Mod_make_107 rfl ?_
                          refine z_isub hx hb d_Mod_make_108 ?_
                          refine lv_iload hx hb d_Mod_make_109 (lv_at hl 0 rfl) ?_
                          refine z_iadd hx hb d_Mod_make_111 ?_
                          have hl9 := (show 0 ≤ L2 ww mo tl d k (d - 1 + k) ∧ L2 ww mo tl d k (d - 1 + k) < 32003 from md_r _)
                          have hd9 := mul_bdc 24 hv9 (show 0 ≤ 2 * d ∧ 2 * d ≤ 24 by omega)
                          have hd8 := mul_bd (md_r (tl d * (2 * d))) (hw3.r k)
                          refine z_lald hx hb hK hP 9 1 rfl rfl (by omega) (by omega) (by omega) d_Mod_make_112 ?_
                          refine lv_lload_n hx hb d_Mod_make_113 rfl (lv_at hl 1 rfl) ?_
                          refine lv_iconst (v := iZ (2)) hx hb d_Mod_make_114 rfl ?_
                          refine lv_iload_n hx hb d_Mod_make_115 rfl (lv_at hl 2 rfl) ?_
                          refine z_imul hx hb d_Mod_make_116 ?_
                          refine z_i2l hx hb d_Mod_make_117 (by omega) ?_
                          refine z_lmul hx hb d_Mod_make_118 ?_
                          refine lv_ldc2 (v := lZ (32003)) hx hb hown (show (Jvm.Cond.constantLong "OrderTwoCasesModel" 51 (lZ (32003))).before _ s = true from hts _ k_527) d_Mod_make_119 ?_
                          refine z_lremmd hx hb d_Mod_make_122 (by omega) ?_
                          refine lv_aload_n hx hb d_Mod_make_123 rfl (lv_at hl 3 rfl) ?_
                          refine va_get (D := (dC, dI)) (ci := 5) (v := .ref ((ma 4))) (C := "OrderTwoCasesModel") (T := F_Mod) (N := 15) hx hb hts la_Mod hown hK hP 0 rfl rfl 4 (by decide) (hts _ k_468) (fun _ h9 => h9) rfl d_Mod_make_124 ?_
                          refine lv_iload hx hb d_Mod_make_127 (lv_at hl 0 rfl) ?_
                          refine z_lald hx hb hK hP 4 1 rfl rfl (by omega) (by omega) (by omega) d_Mod_make_129 ?_
                          refine z_lmul hx hb d_Mod_make_130 ?_
                          refine z_ladd hx hb d_Mod_make_131 ?_
                          refine lv_ldc2 (v := lZ (32003)) hx hb hown (show (Jvm.Cond.constantLong "OrderTwoCasesModel" 51 (lZ (32003))).before _ s = true from hts _ k_527) d_Mod_make_132 ?_
                          refine z_lremmd hx hb d_Mod_make_135 (by omega) ?_
                          refine z_last (wf := [((ma 0), .inr (5, [.int (iZ (cd)), .ref ((ma 1)), .ref ((ma 2)), .ref ((ma 3)), .ref ((ma 4)), .ref ((ma 5)), .int (iZ (td)), .int (iZ (mn)), .ref ((ma 6)), .ref ((ma 7)), .ref ((ma 8)), .ref ((ma 9)), .ref ((ma 10)), .ref ((ma 11)), .ref ((ma 12))])), ((ma 1), .inl (cA, 3, .inl (aR f))), ((ma 2), .inl (cA, 5, .inl (aR g))), ((ma 3), .inl (cJ, 5, .inr (.inl (aL rs)))), ((ma 4), .inl (cJ, 3, .inr (.inl (aL ww)))), ((ma 5), .inl (cJ, 5, .inr (.inl (aL mo)))), ((ma 6), .inl (cA, 2, .inl (aR dg))), ((ma 7), .inl (cJ, 26, .inr (.inl (aL pl)))), ((ma 8), .inl (cJ, 6, .inr (.inl (aL sl)))), ((ma 9), .inl (cJ, 20, .inr (.inl (aL (sT (L2 ww mo tl d k) ((d - 1) + k) (md (((L2 ww mo tl d k) ((d - 1) + k)) + ((md ((tl d) * (2 * d))) * (ww k))))))))), ((ma 10), .inl (cJ, 13, .inr (.inl (aL tl)))), ((ma 11), .inl (cJ, 41, .inr (.inl (aL rw)))), ((ma 12), .inl (cA, 2, .inl (aR rt)))]) hx hb hK hP hD hS 9 1 rfl rfl (by omega) (by omega) (by omega) d_Mod_make_136 rfl (fun H locs hP hD hS => ?_)
                          rw [L2_up (by omega)] at hP hD
                          refine z_iinc (lv' := [(4, .int (iZ (k + 1))), (2, .long (lZ (tl d))), (1, .int (iZ (d))), (0, .ref ((ma 0)))]) hx hb d_Mod_make_137 hl (k := 0) rfl (by decide) rfl (fun ls hl => ?_)
                          refine lv_goto (tgt := 82) hx hb d_Mod_make_140 (by decide) ?_
                          exact ih_82 (k + 1) (by omega) (by omega) (by omega) _ _ hP hD hS ls (lv_sub hl [0, 1, 2, 3] rfl)
                  exact loop_82 4 0 (by omega) (by omega) (by omega) _ _ hP hD hS ls (lv_sub hl [0, 1, 2, 3] rfl)
                · refine lv_aload_n hx hb d_Mod_make_50 rfl (lv_at hl 2 rfl) ?_
                  refine va_get (D := (dC, dI)) (ci := 5) (v := .ref ((ma 9))) (C := "OrderTwoCasesModel") (T := F_Mod) (N := 15) hx hb hts la_Mod hown hK hP 0 rfl rfl 11 (by decide) (hts _ k_475) (fun _ h9 => h9) rfl d_Mod_make_51 ?_
                  refine lv_iload_n hx hb d_Mod_make_54 rfl (lv_at hl 1 rfl) ?_
                  refine lv_iconst (v := iZ (2)) hx hb d_Mod_make_55 rfl ?_
                  refine z_isub hx hb d_Mod_make_56 ?_
                  refine lv_aload_n hx hb d_Mod_make_57 rfl (lv_at hl 2 rfl) ?_
                  refine va_get (D := (dC, dI)) (ci := 5) (v := .ref ((ma 9))) (C := "OrderTwoCasesModel") (T := F_Mod) (N := 15) hx hb hts la_Mod hown hK hP 0 rfl rfl 11 (by decide) (hts _ k_475) (fun _ h9 => h9) rfl d_Mod_make_58 ?_
                  refine lv_iload_n hx hb d_Mod_make_61 rfl (lv_at hl 1 rfl) ?_
                  refine lv_iconst (v := iZ (2)) hx hb d_Mod_make_62 rfl ?_
                  refine z_isub hx hb d_Mod_make_63 ?_
                  have hl9 := (show 0 ≤ L0 ww mo tl d (d - 2) ∧ L0 ww mo tl d (d - 2) < 32003 from md_r _)
                  have hd9 := mul_bdc 1000 hv9 (dd_r (d := d) (by omega))
                  refine z_lald hx hb hK hP 9 1 rfl rfl (by omega) (by omega) (by omega) d_Mod_make_64 ?_
                  refine lv_lload_n hx hb d_Mod_make_65 rfl (lv_at hl 0 rfl) ?_
                  refine lv_iload_n hx hb d_Mod_make_66 rfl (lv_at hl 1 rfl) ?_
                  refine lv_iload_n hx hb d_Mod_make_67 rfl (lv_at hl 1 rfl) ?_
                  refine lv_iconst (v := iZ (1)) hx hb d_Mod_make_68 rfl ?_
                  refine z_isub hx hb d_Mod_make_69 ?_
                  refine z_imul hx hb d_Mod_make_70 ?_
                  refine z_i2l hx hb d_Mod_make_71 (by have := dd_r (d := d) (by omega); omega) ?_
                  refine z_lmul hx hb d_Mod_make_72 ?_
                  refine z_ladd hx hb d_Mod_make_73 ?_
                  refine lv_ldc2 (v := lZ (32003)) hx hb hown (show (Jvm.Cond.constantLong "OrderTwoCasesModel" 51 (lZ (32003))).before _ s = true from hts _ k_527) d_Mod_make_74 ?_
                  refine z_lremmd hx hb d_Mod_make_77 (by omega) ?_
                  refine z_last (wf := [((ma 0), .inr (5, [.int (iZ (cd)), .ref ((ma 1)), .ref ((ma 2)), .ref ((ma 3)), .ref ((ma 4)), .ref ((ma 5)), .int (iZ (td)), .int (iZ (mn)), .ref ((ma 6)), .ref ((ma 7)), .ref ((ma 8)), .ref ((ma 9)), .ref ((ma 10)), .ref ((ma 11)), .ref ((ma 12))])), ((ma 1), .inl (cA, 3, .inl (aR f))), ((ma 2), .inl (cA, 5, .inl (aR g))), ((ma 3), .inl (cJ, 5, .inr (.inl (aL rs)))), ((ma 4), .inl (cJ, 3, .inr (.inl (aL ww)))), ((ma 5), .inl (cJ, 5, .inr (.inl (aL mo)))), ((ma 6), .inl (cA, 2, .inl (aR dg))), ((ma 7), .inl (cJ, 26, .inr (.inl (aL pl)))), ((ma 8), .inl (cJ, 6, .inr (.inl (aL sl)))), ((ma 9), .inl (cJ, 20, .inr (.inl (aL (sT (L0 ww mo tl d) (d - 2) (md (((L0 ww mo tl d) (d - 2)) + ((tl d) * (d * (d - 1)))))))))), ((ma 10), .inl (cJ, 13, .inr (.inl (aL tl)))), ((ma 11), .inl (cJ, 41, .inr (.inl (aL rw)))), ((ma 12), .inl (cA, 2, .inl (aR rt)))]) hx hb hK hP hD hS 9 1 rfl rfl (by omega) (by omega) (by omega) d_Mod_make_78 rfl (fun H locs hP hD hS => ?_)
                  rw [L01_up] at hP hD
                  rw [L12] at hP hD
                  have hP : va_P (dC, dI) vC [((ma 0), .inr (5, [.int (iZ (cd)), .ref ((ma 1)), .ref ((ma 2)), .ref ((ma 3)), .ref ((ma 4)), .ref ((ma 5)), .int (iZ (td)), .int (iZ (mn)), .ref ((ma 6)), .ref ((ma 7)), .ref ((ma 8)), .ref ((ma 9)), .ref ((ma 10)), .ref ((ma 11)), .ref ((ma 12))])), ((ma 1), .inl (cA, 3, .inl (aR f))), ((ma 2), .inl (cA, 5, .inl (aR g))), ((ma 3), .inl (cJ, 5, .inr (.inl (aL rs)))), ((ma 4), .inl (cJ, 3, .inr (.inl (aL ww)))), ((ma 5), .inl (cJ, 5, .inr (.inl (aL mo)))), ((ma 6), .inl (cA, 2, .inl (aR dg))), ((ma 7), .inl (cJ, 26, .inr (.inl (aL pl)))), ((ma 8), .inl (cJ, 6, .inr (.inl (aL sl)))), ((ma 9), .inl (cJ, 20, .inr (.inl (aL (L2 ww mo tl d 0))))), ((ma 10), .inl (cJ, 13, .inr (.inl (aL tl)))), ((ma 11), .inl (cJ, 41, .inr (.inl (aL rw)))), ((ma 12), .inl (cA, 2, .inl (aR rt)))] H := hP
                  have hD : va_D A [((ma 0), .inr (5, [.int (iZ (cd)), .ref ((ma 1)), .ref ((ma 2)), .ref ((ma 3)), .ref ((ma 4)), .ref ((ma 5)), .int (iZ (td)), .int (iZ (mn)), .ref ((ma 6)), .ref ((ma 7)), .ref ((ma 8)), .ref ((ma 9)), .ref ((ma 10)), .ref ((ma 11)), .ref ((ma 12))])), ((ma 1), .inl (cA, 3, .inl (aR f))), ((ma 2), .inl (cA, 5, .inl (aR g))), ((ma 3), .inl (cJ, 5, .inr (.inl (aL rs)))), ((ma 4), .inl (cJ, 3, .inr (.inl (aL ww)))), ((ma 5), .inl (cJ, 5, .inr (.inl (aL mo)))), ((ma 6), .inl (cA, 2, .inl (aR dg))), ((ma 7), .inl (cJ, 26, .inr (.inl (aL pl)))), ((ma 8), .inl (cJ, 6, .inr (.inl (aL sl)))), ((ma 9), .inl (cJ, 20, .inr (.inl (aL (L2 ww mo tl d 0))))), ((ma 10), .inl (cJ, 13, .inr (.inl (aL tl)))), ((ma 11), .inl (cJ, 41, .inr (.inl (aL rw)))), ((ma 12), .inl (cA, 2, .inl (aR rt)))] := hD
                  refine lv_iconst (v := iZ (0)) hx hb d_Mod_make_79 rfl ?_
                  refine lv_istore (lv' := [(4, .int (iZ (0))), (2, .long (lZ (tl d))), (1, .int (iZ (d))), (0, .ref ((ma 0)))]) hx hb d_Mod_make_80 hl (by decide) rfl (fun ls hl => ?_)
                  have loop_82 : ∀ (m_82 : Nat) (k : Int) (hk : 0 ≤ k ∧ k ≤ 3) (hkd : 0 < d ∨ k = 0) (hmeas : 3 - k < (m_82 : Int)) (H : Heap) (locs : List Loc) (hP : va_P (dC, dI) vC [((ma 0), .inr (5, [.int (iZ (cd)), .ref ((ma 1)), .ref ((ma 2)), .ref ((ma 3)), .ref ((ma 4)), .ref ((ma 5)), .int (iZ (td)), .int (iZ (mn)), .ref ((ma 6)), .ref ((ma 7)), .ref ((ma 8)), .ref ((ma 9)), .ref ((ma 10)), .ref ((ma 11)), .ref ((ma 12))])), ((ma 1), .inl (cA, 3, .inl (aR f))), ((ma 2), .inl (cA, 5, .inl (aR g))), ((ma 3), .inl (cJ, 5, .inr (.inl (aL rs)))), ((ma 4), .inl (cJ, 3, .inr (.inl (aL ww)))), ((ma 5), .inl (cJ, 5, .inr (.inl (aL mo)))), ((ma 6), .inl (cA, 2, .inl (aR dg))), ((ma 7), .inl (cJ, 26, .inr (.inl (aL pl)))), ((ma 8), .inl (cJ, 6, .inr (.inl (aL sl)))), ((ma 9), .inl (cJ, 20, .inr (.inl (aL (L2 ww mo tl d k))))), ((ma 10), .inl (cJ, 13, .inr (.inl (aL tl)))), ((ma 11), .inl (cJ, 41, .inr (.inl (aL rw)))), ((ma 12), .inl (cA, 2, .inl (aR rt)))] H) (hD : va_D A [((ma 0), .inr (5, [.int (iZ (cd)), .ref ((ma 1)), .ref ((ma 2)), .ref ((ma 3)), .ref ((ma 4)), .ref ((ma 5)), .int (iZ (td)), .int (iZ (mn)), .ref ((ma 6)), .ref ((ma 7)), .ref ((ma 8)), .ref ((ma 9)), .ref ((ma 10)), .ref ((ma 11)), .ref ((ma 12))])), ((ma 1), .inl (cA, 3, .inl (aR f))), ((ma 2), .inl (cA, 5, .inl (aR g))), ((ma 3), .inl (cJ, 5, .inr (.inl (aL rs)))), ((ma 4), .inl (cJ, 3, .inr (.inl (aL ww)))), ((ma 5), .inl (cJ, 5, .inr (.inl (aL mo)))), ((ma 6), .inl (cA, 2, .inl (aR dg))), ((ma 7), .inl (cJ, 26, .inr (.inl (aL pl)))), ((ma 8), .inl (cJ, 6, .inr (.inl (aL sl)))), ((ma 9), .inl (cJ, 20, .inr (.inl (aL (L2 ww mo tl d k))))), ((ma 10), .inl (cJ, 13, .inr (.inl (aL tl)))), ((ma 11), .inl (cJ, 41, .inr (.inl (aL rw)))), ((ma 12), .inl (cA, 2, .inl (aR rt)))]) (hS : va_S A s.heap H locs) (ls : Array Slot) (hl : lv_has ls 5 [(4, .int (iZ (k))), (2, .long (lZ (tl d))), (1, .int (iZ (d))), (0, .ref ((ma 0)))]), W p l e ({ frames := 1, cells := 0, slots := 0, locals := 23 } : Room) s m ([.ref ((ma 0))] : List Value).toArray below meth c H locs 0 0 (MQ below (va_Qv (fun u : MS => LTz ww mo tl = u.2.2.2.2.2.2.1 ∧ rs = u.1 ∧ ww = u.2.1 ∧ mo = u.2.2.1 ∧ dg = u.2.2.2.1 ∧ pl = u.2.2.2.2.1 ∧ sl = u.2.2.2.2.2.1 ∧ tl = u.2.2.2.2.2.2.2.1 ∧ rw = u.2.2.2.2.2.2.2.2.1 ∧ rt = u.2.2.2.2.2.2.2.2.2.1 ∧ cd = u.2.2.2.2.2.2.2.2.2.2.1 ∧ td = u.2.2.2.2.2.2.2.2.2.2.2.1 ∧ mn = u.2.2.2.2.2.2.2.2.2.2.2.2) (fun (u : MS) t => wB (dC, dI) vC A (mW cA cJ ma f g u) t) A) ([.ref ((ma 0))] : List Value).toArray s 0 0 A) (F0 m 82 ls []) := by
                    intro m_82
                    induction m_82 with
                    | zero =>
                      intro k hk hkd hmeas
                      exfalso; omega
                    | succ m_82 ih_82 =>
                      intro k hk hkd hmeas H locs hP hD hS ls hl
                      refine lv_iload hx hb d_Mod_make_82 (lv_at hl 0 rfl) ?_
                      refine lv_iconst (v := iZ (3)) hx hb d_Mod_make_84 rfl ?_
                      refine z_icmp_ge (tgt := 143) hx hb d_Mod_make_85 (by decide) (by omega) (by omega) (fun c_85 => ?_) (fun c_85 => ?_)
                      · have hE3 : L2 ww mo tl d k = L3 ww mo tl d 0 := by
                          by_cases q : d ≤ 0
                          · rw [show k = 0 by omega]; exact L23_0 (by omega)
                          · rw [show k = 3 by omega]; exact L23 _ _ _ _
                        rw [hE3] at hP hD
                        refine lv_iconst (v := iZ (0)) hx hb d_Mod_make_143 rfl ?_
                        refine lv_istore (lv' := [(4, .int (iZ (0))), (2, .long (lZ (tl d))), (1, .int (iZ (d))), (0, .ref ((ma 0)))]) hx hb d_Mod_make_144 hl (by decide) rfl (fun ls hl => ?_)
                        have loop_146 : ∀ (m_146 : Nat) (k : Int) (hk : 0 ≤ k ∧ k ≤ 2) (hmeas : 2 - k < (m_146 : Int)) (H : Heap) (locs : List Loc) (hP : va_P (dC, dI) vC [((ma 0), .inr (5, [.int (iZ (cd)), .ref ((ma 1)), .ref ((ma 2)), .ref ((ma 3)), .ref ((ma 4)), .ref ((ma 5)), .int (iZ (td)), .int (iZ (mn)), .ref ((ma 6)), .ref ((ma 7)), .ref ((ma 8)), .ref ((ma 9)), .ref ((ma 10)), .ref ((ma 11)), .ref ((ma 12))])), ((ma 1), .inl (cA, 3, .inl (aR f))), ((ma 2), .inl (cA, 5, .inl (aR g))), ((ma 3), .inl (cJ, 5, .inr (.inl (aL rs)))), ((ma 4), .inl (cJ, 3, .inr (.inl (aL ww)))), ((ma 5), .inl (cJ, 5, .inr (.inl (aL mo)))), ((ma 6), .inl (cA, 2, .inl (aR dg))), ((ma 7), .inl (cJ, 26, .inr (.inl (aL pl)))), ((ma 8), .inl (cJ, 6, .inr (.inl (aL sl)))), ((ma 9), .inl (cJ, 20, .inr (.inl (aL (L3 ww mo tl d k))))), ((ma 10), .inl (cJ, 13, .inr (.inl (aL tl)))), ((ma 11), .inl (cJ, 41, .inr (.inl (aL rw)))), ((ma 12), .inl (cA, 2, .inl (aR rt)))] H) (hD : va_D A [((ma 0), .inr (5, [.int (iZ (cd)), .ref ((ma 1)), .ref ((ma 2)), .ref ((ma 3)), .ref ((ma 4)), .ref ((ma 5)), .int (iZ (td)), .int (iZ (mn)), .ref ((ma 6)), .ref ((ma 7)), .ref ((ma 8)), .ref ((ma 9)), .ref ((ma 10)), .ref ((ma 11)), .ref ((ma 12))])), ((ma 1), .inl (cA, 3, .inl (aR f))), ((ma 2), .inl (cA, 5, .inl (aR g))), ((ma 3), .inl (cJ, 5, .inr (.inl (aL rs)))), ((ma 4), .inl (cJ, 3, .inr (.inl (aL ww)))), ((ma 5), .inl (cJ, 5, .inr (.inl (aL mo)))), ((ma 6), .inl (cA, 2, .inl (aR dg))), ((ma 7), .inl (cJ, 26, .inr (.inl (aL pl)))), ((ma 8), .inl (cJ, 6, .inr (.inl (aL sl)))), ((ma 9), .inl (cJ, 20, .inr (.inl (aL (L3 ww mo tl d k))))), ((ma 10), .inl (cJ, 13, .inr (.inl (aL tl)))), ((ma 11), .inl (cJ, 41, .inr (.inl (aL rw)))), ((ma 12), .inl (cA, 2, .inl (aR rt)))]) (hS : va_S A s.heap H locs) (ls : Array Slot) (hl : lv_has ls 5 [(4, .int (iZ (k))), (2, .long (lZ (tl d))), (1, .int (iZ (d))), (0, .ref ((ma 0)))]), W p l e ({ frames := 1, cells := 0, slots := 0, locals := 23 } : Room) s m ([.ref ((ma 0))] : List Value).toArray below meth c H locs 0 0 (MQ below (va_Qv (fun u : MS => LTz ww mo tl = u.2.2.2.2.2.2.1 ∧ rs = u.1 ∧ ww = u.2.1 ∧ mo = u.2.2.1 ∧ dg = u.2.2.2.1 ∧ pl = u.2.2.2.2.1 ∧ sl = u.2.2.2.2.2.1 ∧ tl = u.2.2.2.2.2.2.2.1 ∧ rw = u.2.2.2.2.2.2.2.2.1 ∧ rt = u.2.2.2.2.2.2.2.2.2.1 ∧ cd = u.2.2.2.2.2.2.2.2.2.2.1 ∧ td = u.2.2.2.2.2.2.2.2.2.2.2.1 ∧ mn = u.2.2.2.2.2.2.2.2.2.2.2.2) (fun (u : MS) t => wB (dC, dI) vC A (mW cA cJ ma f g u) t) A) ([.ref ((ma 0))] : List Value).toArray s 0 0 A) (F0 m 146 ls []) := by
                          intro m_146
                          induction m_146 with
                          | zero =>
                            intro k hk hmeas
                            exfalso; omega
                          | succ m_146 ih_146 =>
                            intro k hk hmeas H locs hP hD hS ls hl
                            refine lv_iload hx hb d_Mod_make_146 (lv_at hl 0 rfl) ?_
                            refine lv_iconst (v := iZ (2)) hx hb d_Mod_make_148 rfl ?_
                            refine z_icmp_ge (tgt := 202) hx hb d_Mod_make_149 (by decide) (by omega) (by omega) (fun c_149 => ?_) (fun c_149 => ?_)
                            · rw [show k = 2 by omega, L34] at hP hD
                              refine lv_iconst (v := iZ (0)) hx hb d_Mod_make_202 rfl ?_
                              refine lv_istore (lv' := [(4, .int (iZ (0))), (2, .long (lZ (tl d))), (1, .int (iZ (d))), (0, .ref ((ma 0)))]) hx hb d_Mod_make_203 hl (by decide) rfl (fun ls hl => ?_)
                              have loop_205 : ∀ (m_205 : Nat) (k : Int) (hk : 0 ≤ k ∧ k ≤ 5) (hmeas : 5 - k < (m_205 : Int)) (H : Heap) (locs : List Loc) (hP : va_P (dC, dI) vC [((ma 0), .inr (5, [.int (iZ (cd)), .ref ((ma 1)), .ref ((ma 2)), .ref ((ma 3)), .ref ((ma 4)), .ref ((ma 5)), .int (iZ (td)), .int (iZ (mn)), .ref ((ma 6)), .ref ((ma 7)), .ref ((ma 8)), .ref ((ma 9)), .ref ((ma 10)), .ref ((ma 11)), .ref ((ma 12))])), ((ma 1), .inl (cA, 3, .inl (aR f))), ((ma 2), .inl (cA, 5, .inl (aR g))), ((ma 3), .inl (cJ, 5, .inr (.inl (aL rs)))), ((ma 4), .inl (cJ, 3, .inr (.inl (aL ww)))), ((ma 5), .inl (cJ, 5, .inr (.inl (aL mo)))), ((ma 6), .inl (cA, 2, .inl (aR dg))), ((ma 7), .inl (cJ, 26, .inr (.inl (aL pl)))), ((ma 8), .inl (cJ, 6, .inr (.inl (aL sl)))), ((ma 9), .inl (cJ, 20, .inr (.inl (aL (L4 ww mo tl d k))))), ((ma 10), .inl (cJ, 13, .inr (.inl (aL tl)))), ((ma 11), .inl (cJ, 41, .inr (.inl (aL rw)))), ((ma 12), .inl (cA, 2, .inl (aR rt)))] H) (hD : va_D A [((ma 0), .inr (5, [.int (iZ (cd)), .ref ((ma 1)), .ref ((ma 2)), .ref ((ma 3)), .ref ((ma 4)), .ref ((ma 5)), .int (iZ (td)), .int (iZ (mn)), .ref ((ma 6)), .ref ((ma 7)), .ref ((ma 8)), .ref ((ma 9)), .ref ((ma 10)), .ref ((ma 11)), .ref ((ma 12))])), ((ma 1), .inl (cA, 3, .inl (aR f))), ((ma 2), .inl (cA, 5, .inl (aR g))), ((ma 3), .inl (cJ, 5, .inr (.inl (aL rs)))), ((ma 4), .inl (cJ, 3, .inr (.inl (aL ww)))), ((ma 5), .inl (cJ, 5, .inr (.inl (aL mo)))), ((ma 6), .inl (cA, 2, .inl (aR dg))), ((ma 7), .inl (cJ, 26, .inr (.inl (aL pl)))), ((ma 8), .inl (cJ, 6, .inr (.inl (aL sl)))), ((ma 9), .inl (cJ, 20, .inr (.inl (aL (L4 ww mo tl d k))))), ((ma 10), .inl (cJ, 13, .inr (.inl (aL tl)))), ((ma 11), .inl (cJ, 41, .inr (.inl (aL rw)))), ((ma 12), .inl (cA, 2, .inl (aR rt)))]) (hS : va_S A s.heap H locs) (ls : Array Slot) (hl : lv_has ls 5 [(4, .int (iZ (k))), (2, .long (lZ (tl d))), (1, .int (iZ (d))), (0, .ref ((ma 0)))]), W p l e ({ frames := 1, cells := 0, slots := 0, locals := 23 } : Room) s m ([.ref ((ma 0))] : List Value).toArray below meth c H locs 0 0 (MQ below (va_Qv (fun u : MS => LTz ww mo tl = u.2.2.2.2.2.2.1 ∧ rs = u.1 ∧ ww = u.2.1 ∧ mo = u.2.2.1 ∧ dg = u.2.2.2.1 ∧ pl = u.2.2.2.2.1 ∧ sl = u.2.2.2.2.2.1 ∧ tl = u.2.2.2.2.2.2.2.1 ∧ rw = u.2.2.2.2.2.2.2.2.1 ∧ rt = u.2.2.2.2.2.2.2.2.2.1 ∧ cd = u.2.2.2.2.2.2.2.2.2.2.1 ∧ td = u.2.2.2.2.2.2.2.2.2.2.2.1 ∧ mn = u.2.2.2.2.2.2.2.2.2.2.2.2) (fun (u : MS) t => wB (dC, dI) vC A (mW cA cJ ma f g u) t) A) ([.ref ((ma 0))] : List Value).toArray s 0 0 A) (F0 m 205 ls []) := by
                                intro m_205
                                induction m_205 with
                                | zero =>
                                  intro k hk hmeas
                                  exfalso; omega
                                | succ m_205 ih_205 =>
                                  intro k hk hmeas H locs hP hD hS ls hl
                                  refine lv_iload hx hb d_Mod_make_205 (lv_at hl 0 rfl) ?_
                                  refine lv_iconst (v := iZ (5)) hx hb d_Mod_make_207 rfl ?_
                                  refine z_icmp_ge (tgt := 248) hx hb d_Mod_make_208 (by decide) (by omega) (by omega) (fun c_208 => ?_) (fun c_208 => ?_)
                                  · rw [show k = 5 by omega, L40 hw3 hm5 (by omega)] at hP hD
                                    refine z_iinc (lv' := [(1, .int (iZ (d + 1))), (4, .int (iZ (k))), (2, .long (lZ (tl d))), (0, .ref ((ma 0)))]) hx hb d_Mod_make_248 hl (k := 2) rfl (by decide) rfl (fun ls hl => ?_)
                                    refine lv_goto (tgt := 23) hx hb d_Mod_make_251 (by decide) ?_
                                    exact ih_23 (d + 1) (by omega) (by omega) _ _ hP hD hS ls (lv_sub hl [0, 3] rfl)
                                  · refine lv_aload_n hx hb d_Mod_make_211 rfl (lv_at hl 3 rfl) ?_
                                    refine va_get (D := (dC, dI)) (ci := 5) (v := .ref ((ma 9))) (C := "OrderTwoCasesModel") (T := F_Mod) (N := 15) hx hb hts la_Mod hown hK hP 0 rfl rfl 11 (by decide) (hts _ k_475) (fun _ h9 => h9) rfl d_Mod_make_212 ?_
                                    refine lv_iload_n hx hb d_Mod_make_215 rfl (lv_at hl 2 rfl) ?_
                                    refine lv_iload hx hb d_Mod_make_216 (lv_at hl 0 rfl) ?_
                                    refine z_iadd hx hb d_Mod_make_218 ?_
                                    refine lv_aload_n hx hb d_Mod_make_219 rfl (lv_at hl 3 rfl) ?_
                                    refine va_get (D := (dC, dI)) (ci := 5) (v := .ref ((ma 9))) (C := "OrderTwoCasesModel") (T := F_Mod) (N := 15) hx hb hts la_Mod hown hK hP 0 rfl rfl 11 (by decide) (hts _ k_475) (fun _ h9 => h9) rfl d_Mod_make_220 ?_
                                    refine lv_iload_n hx hb d_Mod_make_223 rfl (lv_at hl 2 rfl) ?_
                                    refine lv_iload hx hb d_Mod_make_224 (lv_at hl 0 rfl) ?_
                                    refine z_iadd hx hb d_Mod_make_226 ?_
                                    have hl9 := (show 0 ≤ L4 ww mo tl d k (d + k) ∧ L4 ww mo tl d k (d + k) < 32003 from md_r _)
                                    have hd9 := mul_bd hv9 (hm5.r k)
                                    refine z_lald hx hb hK hP 9 1 rfl rfl (by omega) (by omega) (by omega) d_Mod_make_227 ?_
                                    refine lv_lload_n hx hb d_Mod_make_228 rfl (lv_at hl 1 rfl) ?_
                                    refine lv_aload_n hx hb d_Mod_make_229 rfl (lv_at hl 3 rfl) ?_
                                    refine va_get (D := (dC, dI)) (ci := 5) (v := .ref ((ma 5))) (C := "OrderTwoCasesModel") (T := F_Mod) (N := 15) hx hb hts la_Mod hown hK hP 0 rfl rfl 5 (by decide) (hts _ k_469) (fun _ h9 => h9) rfl d_Mod_make_230 ?_
                                    refine lv_iload hx hb d_Mod_make_233 (lv_at hl 0 rfl) ?_
                                    refine z_lald hx hb hK hP 5 1 rfl rfl (by omega) (by omega) (by omega) d_Mod_make_235 ?_
                                    refine z_lmul hx hb d_Mod_make_236 ?_
                                    refine z_lsub hx hb d_Mod_make_237 ?_
                                    refine w_rdl (va_runS (As := [.long (lZ (((L4 ww mo tl d k) (d + k)) - ((tl d) * (mo k))))]) (rest := [.int (iZ (d + k)), .ref ((ma 9))]) ⟨hx, hb, hml, hown, hts⟩ (c_modulo l (((L4 ww mo tl d k) (d + k)) - ((tl d) * (mo k))) (by omega)) (va_cwS 1 hts g_Mod_61 rfl rfl rfl (by decide +kernel) ⟨Nat.le_of_ble_eq_true rfl, Nat.le_of_ble_eq_true rfl⟩) preEq rfl rfl hl.1 rfl (lv_room (Nat.le_of_ble_eq_true rfl)) d_Mod_make_238 ⟨Nat.le_of_ble_eq_true rfl, Nat.le_of_ble_eq_true rfl⟩) ?_
                                    have hm_238 := md_r (((L4 ww mo tl d k) (d + k)) - ((tl d) * (mo k)))
                                    refine z_last (wf := [((ma 0), .inr (5, [.int (iZ (cd)), .ref ((ma 1)), .ref ((ma 2)), .ref ((ma 3)), .ref ((ma 4)), .ref ((ma 5)), .int (iZ (td)), .int (iZ (mn)), .ref ((ma 6)), .ref ((ma 7)), .ref ((ma 8)), .ref ((ma 9)), .ref ((ma 10)), .ref ((ma 11)), .ref ((ma 12))])), ((ma 1), .inl (cA, 3, .inl (aR f))), ((ma 2), .inl (cA, 5, .inl (aR g))), ((ma 3), .inl (cJ, 5, .inr (.inl (aL rs)))), ((ma 4), .inl (cJ, 3, .inr (.inl (aL ww)))), ((ma 5), .inl (cJ, 5, .inr (.inl (aL mo)))), ((ma 6), .inl (cA, 2, .inl (aR dg))), ((ma 7), .inl (cJ, 26, .inr (.inl (aL pl)))), ((ma 8), .inl (cJ, 6, .inr (.inl (aL sl)))), ((ma 9), .inl (cJ, 20, .inr (.inl (aL (sT (L4 ww mo tl d k) (d + k) (md (((L4 ww mo tl d k) (d + k)) - ((tl d) * (mo k))))))))), ((ma 10), .inl (cJ, 13, .inr (.inl (aL tl)))), ((ma 11), .inl (cJ, 41, .inr (.inl (aL rw)))), ((ma 12), .inl (cA, 2, .inl (aR rt)))]) hx hb hK hP hD hS 9 1 rfl rfl (by omega) (by omega) (by omega) d_Mod_make_241 rfl (fun H locs hP hD hS => ?_)
                                    rw [L4_up (by omega)] at hP hD
                                    refine z_iinc (lv' := [(4, .int (iZ (k + 1))), (2, .long (lZ (tl d))), (1, .int (iZ (d))), (0, .ref ((ma 0)))]) hx hb d_Mod_make_242 hl (k := 0) rfl (by decide) rfl (fun ls hl => ?_)
                                    refine lv_goto (tgt := 205) hx hb d_Mod_make_245 (by decide) ?_
                                    exact ih_205 (k + 1) (by omega) (by omega) _ _ hP hD hS ls (lv_sub hl [0, 1, 2, 3] rfl)
                              exact loop_205 6 0 (by omega) (by omega) _ _ hP hD hS ls (lv_sub hl [0, 1, 2, 3] rfl)
                            · refine lv_aload_n hx hb d_Mod_make_152 rfl (lv_at hl 3 rfl) ?_
                              refine va_get (D := (dC, dI)) (ci := 5) (v := .ref ((ma 9))) (C := "OrderTwoCasesModel") (T := F_Mod) (N := 15) hx hb hts la_Mod hown hK hP 0 rfl rfl 11 (by decide) (hts _ k_475) (fun _ h9 => h9) rfl d_Mod_make_153 ?_
                              refine lv_iload_n hx hb d_Mod_make_156 rfl (lv_at hl 2 rfl) ?_
                              refine lv_iload hx hb d_Mod_make_157 (lv_at hl 0 rfl) ?_
                              refine z_iadd hx hb d_Mod_make_159 ?_
                              refine lv_aload_n hx hb d_Mod_make_160 rfl (lv_at hl 3 rfl) ?_
                              refine va_get (D := (dC, dI)) (ci := 5) (v := .ref ((ma 9))) (C := "OrderTwoCasesModel") (T := F_Mod) (N := 15) hx hb hts la_Mod hown hK hP 0 rfl rfl 11 (by decide) (hts _ k_475) (fun _ h9 => h9) rfl d_Mod_make_161 ?_
                              refine lv_iload_n hx hb d_Mod_make_164 rfl (lv_at hl 2 rfl) ?_
                              refine lv_iload hx hb d_Mod_make_165 (lv_at hl 0 rfl) ?_
                              refine z_iadd hx hb d_Mod_make_167 ?_
                              have hl9 := (show 0 ≤ L3 ww mo tl d k (d + k) ∧ L3 ww mo tl d k (d + k) < 32003 from md_r _)
                              have hd9 := mul_bdc 3 hv9 (show 0 ≤ k + 1 ∧ k + 1 ≤ 3 by omega)
                              have hd8 := mul_bd (md_r (tl d * (k + 1))) (hw3.r (k + 1))
                              refine z_lald hx hb hK hP 9 1 rfl rfl (by omega) (by omega) (by omega) d_Mod_make_168 ?_
                              refine lv_lload_n hx hb d_Mod_make_169 rfl (lv_at hl 1 rfl) ?_
                              refine lv_iload hx hb d_Mod_make_170 (lv_at hl 0 rfl) ?_
                              refine lv_iconst (v := iZ (1)) hx hb d_Mod_make_172 rfl ?_
                              refine z_iadd hx hb d_Mod_make_173 ?_
                              refine z_i2l hx hb d_Mod_make_174 (by omega) ?_
                              refine z_lmul hx hb d_Mod_make_175 ?_
                              refine lv_ldc2 (v := lZ (32003)) hx hb hown (show (Jvm.Cond.constantLong "OrderTwoCasesModel" 51 (lZ (32003))).before _ s = true from hts _ k_527) d_Mod_make_176 ?_
                              refine z_lremmd hx hb d_Mod_make_179 (by omega) ?_
                              refine lv_aload_n hx hb d_Mod_make_180 rfl (lv_at hl 3 rfl) ?_
                              refine va_get (D := (dC, dI)) (ci := 5) (v := .ref ((ma 4))) (C := "OrderTwoCasesModel") (T := F_Mod) (N := 15) hx hb hts la_Mod hown hK hP 0 rfl rfl 4 (by decide) (hts _ k_468) (fun _ h9 => h9) rfl d_Mod_make_181 ?_
                              refine lv_iload hx hb d_Mod_make_184 (lv_at hl 0 rfl) ?_
                              refine lv_iconst (v := iZ (1)) hx hb d_Mod_make_186 rfl ?_
                              refine z_iadd hx hb d_Mod_make_187 ?_
                              refine z_lald hx hb hK hP 4 1 rfl rfl (by omega) (by omega) (by omega) d_Mod_make_188 ?_
                              refine z_lmul hx hb d_Mod_make_189 ?_
                              refine z_ladd hx hb d_Mod_make_190 ?_
                              refine lv_ldc2 (v := lZ (32003)) hx hb hown (show (Jvm.Cond.constantLong "OrderTwoCasesModel" 51 (lZ (32003))).before _ s = true from hts _ k_527) d_Mod_make_191 ?_
                              refine z_lremmd hx hb d_Mod_make_194 (by omega) ?_
                              refine z_last (wf := [((ma 0), .inr (5, [.int (iZ (cd)), .ref ((ma 1)), .ref ((ma 2)), .ref ((ma 3)), .ref ((ma 4)), .ref ((ma 5)), .int (iZ (td)), .int (iZ (mn)), .ref ((ma 6)), .ref ((ma 7)), .ref ((ma 8)), .ref ((ma 9)), .ref ((ma 10)), .ref ((ma 11)), .ref ((ma 12))])), ((ma 1), .inl (cA, 3, .inl (aR f))), ((ma 2), .inl (cA, 5, .inl (aR g))), ((ma 3), .inl (cJ, 5, .inr (.inl (aL rs)))), ((ma 4), .inl (cJ, 3, .inr (.inl (aL ww)))), ((ma 5), .inl (cJ, 5, .inr (.inl (aL mo)))), ((ma 6), .inl (cA, 2, .inl (aR dg))), ((ma 7), .inl (cJ, 26, .inr (.inl (aL pl)))), ((ma 8), .inl (cJ, 6, .inr (.inl (aL sl)))), ((ma 9), .inl (cJ, 20, .inr (.inl (aL (sT (L3 ww mo tl d k) (d + k) (md (((L3 ww mo tl d k) (d + k)) + ((md ((tl d) * (k + 1))) * (ww (k + 1)))))))))), ((ma 10), .inl (cJ, 13, .inr (.inl (aL tl)))), ((ma 11), .inl (cJ, 41, .inr (.inl (aL rw)))), ((ma 12), .inl (cA, 2, .inl (aR rt)))]) hx hb hK hP hD hS 9 1 rfl rfl (by omega) (by omega) (by omega) d_Mod_make_195 rfl (fun H locs hP hD hS => ?_)
                              rw [L3_up (by omega)] at hP hD
                              refine z_iinc (lv' := [(4, .int (iZ (k + 1))), (2, .long (lZ (tl d))), (1, .int (iZ (d))), (0, .ref ((ma 0)))]) hx hb d_Mod_make_196 hl (k := 0) rfl (by decide) rfl (fun ls hl => ?_)
                              refine lv_goto (tgt := 146) hx hb d_Mod_make_199 (by decide) ?_
                              exact ih_146 (k + 1) (by omega) (by omega) _ _ hP hD hS ls (lv_sub hl [0, 1, 2, 3] rfl)
                        exact loop_146 3 0 (by omega) (by omega) _ _ hP hD hS ls (lv_sub hl [0, 1, 2, 3] rfl)
                      · refine lv_iload_n hx hb d_Mod_make_88 rfl (lv_at hl 2 rfl) ?_
                        refine z_if_le (tgt := 143) hx hb d_Mod_make_89 (by decide) (by omega) (fun c_89 => ?_) (fun c_89 => ?_)
                        · have hE3 : L2 ww mo tl d k = L3 ww mo tl d 0 := by
                            by_cases q : d ≤ 0
                            · rw [show k = 0 by omega]; exact L23_0 (by omega)
                            · rw [show k = 3 by omega]; exact L23 _ _ _ _
                          rw [hE3] at hP hD
                          refine lv_iconst (v := iZ (0)) hx hb d_Mod_make_143 rfl ?_
                          refine lv_istore (lv' := [(4, .int (iZ (0))), (2, .long (lZ (tl d))), (1, .int (iZ (d))), (0, .ref ((ma 0)))]) hx hb d_Mod_make_144 hl (by decide) rfl (fun ls hl => ?_)
                          have loop_146 : ∀ (m_146 : Nat) (k : Int) (hk : 0 ≤ k ∧ k ≤ 2) (hmeas : 2 - k < (m_146 : Int)) (H : Heap) (locs : List Loc) (hP : va_P (dC, dI) vC [((ma 0), .inr (5, [.int (iZ (cd)), .ref ((ma 1)), .ref ((ma 2)), .ref ((ma 3)), .ref ((ma 4)), .ref ((ma 5)), .int (iZ (td)), .int (iZ (mn)), .ref ((ma 6)), .ref ((ma 7)), .ref ((ma 8)), .ref ((ma 9)), .ref ((ma 10)), .ref ((ma 11)), .ref ((ma 12))])), ((ma 1), .inl (cA, 3, .inl (aR f))), ((ma 2), .inl (cA, 5, .inl (aR g))), ((ma 3), .inl (cJ, 5, .inr (.inl (aL rs)))), ((ma 4), .inl (cJ, 3, .inr (.inl (aL ww)))), ((ma 5), .inl (cJ, 5, .inr (.inl (aL mo)))), ((ma 6), .inl (cA, 2, .inl (aR dg))), ((ma 7), .inl (cJ, 26, .inr (.inl (aL pl)))), ((ma 8), .inl (cJ, 6, .inr (.inl (aL sl)))), ((ma 9), .inl (cJ, 20, .inr (.inl (aL (L3 ww mo tl d k))))), ((ma 10), .inl (cJ, 13, .inr (.inl (aL tl)))), ((ma 11), .inl (cJ, 41, .inr (.inl (aL rw)))), ((ma 12), .inl (cA, 2, .inl (aR rt)))] H) (hD : va_D A [((ma 0), .inr (5, [.int (iZ (cd)), .ref ((ma 1)), .ref ((ma 2)), .ref ((ma 3)), .ref ((ma 4)), .ref ((ma 5)), .int (iZ (td)), .int (iZ (mn)), .ref ((ma 6)), .ref ((ma 7)), .ref ((ma 8)), .ref ((ma 9)), .ref ((ma 10)), .ref ((ma 11)), .ref ((ma 12))])), ((ma 1), .inl (cA, 3, .inl (aR f))), ((ma 2), .inl (cA, 5, .inl (aR g))), ((ma 3), .inl (cJ, 5, .inr (.inl (aL rs)))), ((ma 4), .inl (cJ, 3, .inr (.inl (aL ww)))), ((ma 5), .inl (cJ, 5, .inr (.inl (aL mo)))), ((ma 6), .inl (cA, 2, .inl (aR dg))), ((ma 7), .inl (cJ, 26, .inr (.inl (aL pl)))), ((ma 8), .inl (cJ, 6, .inr (.inl (aL sl)))), ((ma 9), .inl (cJ, 20, .inr (.inl (aL (L3 ww mo tl d k))))), ((ma 10), .inl (cJ, 13, .inr (.inl (aL tl)))), ((ma 11), .inl (cJ, 41, .inr (.inl (aL rw)))), ((ma 12), .inl (cA, 2, .inl (aR rt)))]) (hS : va_S A s.heap H locs) (ls : Array Slot) (hl : lv_has ls 5 [(4, .int (iZ (k))), (2, .long (lZ (tl d))), (1, .int (iZ (d))), (0, .ref ((ma 0)))]), W p l e ({ frames := 1, cells := 0, slots := 0, locals := 23 } : Room) s m ([.ref ((ma 0))] : List Value).toArray below meth c H locs 0 0 (MQ below (va_Qv (fun u : MS => LTz ww mo tl = u.2.2.2.2.2.2.1 ∧ rs = u.1 ∧ ww = u.2.1 ∧ mo = u.2.2.1 ∧ dg = u.2.2.2.1 ∧ pl = u.2.2.2.2.1 ∧ sl = u.2.2.2.2.2.1 ∧ tl = u.2.2.2.2.2.2.2.1 ∧ rw = u.2.2.2.2.2.2.2.2.1 ∧ rt = u.2.2.2.2.2.2.2.2.2.1 ∧ cd = u.2.2.2.2.2.2.2.2.2.2.1 ∧ td = u.2.2.2.2.2.2.2.2.2.2.2.1 ∧ mn = u.2.2.2.2.2.2.2.2.2.2.2.2) (fun (u : MS) t => wB (dC, dI) vC A (mW cA cJ ma f g u) t) A) ([.ref ((ma 0))] : List Value).toArray s 0 0 A) (F0 m 146 ls []) := by
                            intro m_146
                            induction m_146 with
                            | zero =>
                              intro k hk hmeas
                              exfalso; omega
                            | succ m_146 ih_146 =>
                              intro k hk hmeas H locs hP hD hS ls hl
                              refine lv_iload hx hb d_Mod_make_146 (lv_at hl 0 rfl) ?_
                              refine lv_iconst (v := iZ (2)) hx hb d_Mod_make_148 rfl ?_
                              refine z_icmp_ge (tgt := 202) hx hb d_Mod_make_149 (by decide) (by omega) (by omega) (fun c_149 => ?_) (fun c_149 => ?_)
                              · rw [show k = 2 by omega, L34] at hP hD
                                refine lv_iconst (v := iZ (0)) hx hb d_Mod_make_202 rfl ?_
                                refine lv_istore (lv' := [(4, .int (iZ (0))), (2, .long (lZ (tl d))), (1, .int (iZ (d))), (0, .ref ((ma 0)))]) hx hb d_Mod_make_203 hl (by decide) rfl (fun ls hl => ?_)
                                have loop_205 : ∀ (m_205 : Nat) (k : Int) (hk : 0 ≤ k ∧ k ≤ 5) (hmeas : 5 - k < (m_205 : Int)) (H : Heap) (locs : List Loc) (hP : va_P (dC, dI) vC [((ma 0), .inr (5, [.int (iZ (cd)), .ref ((ma 1)), .ref ((ma 2)), .ref ((ma 3)), .ref ((ma 4)), .ref ((ma 5)), .int (iZ (td)), .int (iZ (mn)), .ref ((ma 6)), .ref ((ma 7)), .ref ((ma 8)), .ref ((ma 9)), .ref ((ma 10)), .ref ((ma 11)), .ref ((ma 12))])), ((ma 1), .inl (cA, 3, .inl (aR f))), ((ma 2), .inl (cA, 5, .inl (aR g))), ((ma 3), .inl (cJ, 5, .inr (.inl (aL rs)))), ((ma 4), .inl (cJ, 3, .inr (.inl (aL ww)))), ((ma 5), .inl (cJ, 5, .inr (.inl (aL mo)))), ((ma 6), .inl (cA, 2, .inl (aR dg))), ((ma 7), .inl (cJ, 26, .inr (.inl (aL pl)))), ((ma 8), .inl (cJ, 6, .inr (.inl (aL sl)))), ((ma 9), .inl (cJ, 20, .inr (.inl (aL (L4 ww mo tl d k))))), ((ma 10), .inl (cJ, 13, .inr (.inl (aL tl)))), ((ma 11), .inl (cJ, 41, .inr (.inl (aL rw)))), ((ma 12), .inl (cA, 2, .inl (aR rt)))] H) (hD : va_D A [((ma 0), .inr (5, [.int (iZ (cd)), .ref ((ma 1)), .ref ((ma 2)), .ref ((ma 3)), .ref ((ma 4)), .ref ((ma 5)), .int (iZ (td)), .int (iZ (mn)), .ref ((ma 6)), .ref ((ma 7)), .ref ((ma 8)), .ref ((ma 9)), .ref ((ma 10)), .ref ((ma 11)), .ref ((ma 12))])), ((ma 1), .inl (cA, 3, .inl (aR f))), ((ma 2), .inl (cA, 5, .inl (aR g))), ((ma 3), .inl (cJ, 5, .inr (.inl (aL rs)))), ((ma 4), .inl (cJ, 3, .inr (.inl (aL ww)))), ((ma 5), .inl (cJ, 5, .inr (.inl (aL mo)))), ((ma 6), .inl (cA, 2, .inl (aR dg))), ((ma 7), .inl (cJ, 26, .inr (.inl (aL pl)))), ((ma 8), .inl (cJ, 6, .inr (.inl (aL sl)))), ((ma 9), .inl (cJ, 20, .inr (.inl (aL (L4 ww mo tl d k))))), ((ma 10), .inl (cJ, 13, .inr (.inl (aL tl)))), ((ma 11), .inl (cJ, 41, .inr (.inl (aL rw)))), ((ma 12), .inl (cA, 2, .inl (aR rt)))]) (hS : va_S A s.heap H locs) (ls : Array Slot) (hl : lv_has ls 5 [(4, .int (iZ (k))), (2, .long (lZ (tl d))), (1, .int (iZ (d))), (0, .ref ((ma 0)))]), W p l e ({ frames := 1, cells := 0, slots := 0, locals := 23 } : Room) s m ([.ref ((ma 0))] : List Value).toArray below meth c H locs 0 0 (MQ below (va_Qv (fun u : MS => LTz ww mo tl = u.2.2.2.2.2.2.1 ∧ rs = u.1 ∧ ww = u.2.1 ∧ mo = u.2.2.1 ∧ dg = u.2.2.2.1 ∧ pl = u.2.2.2.2.1 ∧ sl = u.2.2.2.2.2.1 ∧ tl = u.2.2.2.2.2.2.2.1 ∧ rw = u.2.2.2.2.2.2.2.2.1 ∧ rt = u.2.2.2.2.2.2.2.2.2.1 ∧ cd = u.2.2.2.2.2.2.2.2.2.2.1 ∧ td = u.2.2.2.2.2.2.2.2.2.2.2.1 ∧ mn = u.2.2.2.2.2.2.2.2.2.2.2.2) (fun (u : MS) t => wB (dC, dI) vC A (mW cA cJ ma f g u) t) A) ([.ref ((ma 0))] : List Value).toArray s 0 0 A) (F0 m 205 ls []) := by
                                  intro m_205
                                  induction m_205 with
                                  | zero =>
                                    intro k hk hmeas
                                    exfalso; omega
                                  | succ m_205 ih_205 =>
                                    intro k hk hmeas H locs hP hD hS ls hl
                                    refine lv_iload hx hb d_Mod_make_205 (lv_at hl 0 rfl) ?_
                                    refine lv_iconst (v := iZ (5)) hx hb d_Mod_make_207 rfl ?_
                                    refine z_icmp_ge (tgt := 248) hx hb d_Mod_make_208 (by decide) (by omega) (by omega) (fun c_208 => ?_) (fun c_208 => ?_)
                                    · rw [show k = 5 by omega, L40 hw3 hm5 (by omega)] at hP hD
                                      refine z_iinc (lv' := [(1, .int (iZ (d + 1))), (4, .int (iZ (k))), (2, .long (lZ (tl d))), (0, .ref ((ma 0)))]) hx hb d_Mod_make_248 hl (k := 2) rfl (by decide) rfl (fun ls hl => ?_)
                                      refine lv_goto (tgt := 23) hx hb d_Mod_make_251 (by decide) ?_
                                      exact ih_23 (d + 1) (by omega) (by omega) _ _ hP hD hS ls (lv_sub hl [0, 3] rfl)
                                    · refine lv_aload_n hx hb d_Mod_make_211 rfl (lv_at hl 3 rfl) ?_
                                      refine va_get (D := (dC, dI)) (ci := 5) (v := .ref ((ma 9))) (C := "OrderTwoCasesModel") (T := F_Mod) (N := 15) hx hb hts la_Mod hown hK hP 0 rfl rfl 11 (by decide) (hts _ k_475) (fun _ h9 => h9) rfl d_Mod_make_212 ?_
                                      refine lv_iload_n hx hb d_Mod_make_215 rfl (lv_at hl 2 rfl) ?_
                                      refine lv_iload hx hb d_Mod_make_216 (lv_at hl 0 rfl) ?_
                                      refine z_iadd hx hb d_Mod_make_218 ?_
                                      refine lv_aload_n hx hb d_Mod_make_219 rfl (lv_at hl 3 rfl) ?_
                                      refine va_get (D := (dC, dI)) (ci := 5) (v := .ref ((ma 9))) (C := "OrderTwoCasesModel") (T := F_Mod) (N := 15) hx hb hts la_Mod hown hK hP 0 rfl rfl 11 (by decide) (hts _ k_475) (fun _ h9 => h9) rfl d_Mod_make_220 ?_
                                      refine lv_iload_n hx hb d_Mod_make_223 rfl (lv_at hl 2 rfl) ?_
                                      refine lv_iload hx hb d_Mod_make_224 (lv_at hl 0 rfl) ?_
                                      refine z_iadd hx hb d_Mod_make_226 ?_
                                      have hl9 := (show 0 ≤ L4 ww mo tl d k (d + k) ∧ L4 ww mo tl d k (d + k) < 32003 from md_r _)
                                      have hd9 := mul_bd hv9 (hm5.r k)
                                      refine z_lald hx hb hK hP 9 1 rfl rfl (by omega) (by omega) (by omega) d_Mod_make_227 ?_
                                      refine lv_lload_n hx hb d_Mod_make_228 rfl (lv_at hl 1 rfl) ?_
                                      refine lv_aload_n hx hb d_Mod_make_229 rfl (lv_at hl 3 rfl) ?_
                                      refine va_get (D := (dC, dI)) (ci := 5) (v := .ref ((ma 5))) (C := "OrderTwoCasesModel") (T := F_Mod) (N := 15) hx hb hts la_Mod hown hK hP 0 rfl rfl 5 (by decide) (hts _ k_469) (fun _ h9 => h9) rfl d_Mod_make_230 ?_
                                      refine lv_iload hx hb d_Mod_make_233 (lv_at hl 0 rfl) ?_
                                      refine z_lald hx hb hK hP 5 1 rfl rfl (by omega) (by omega) (by omega) d_Mod_make_235 ?_
                                      refine z_lmul hx hb d_Mod_make_236 ?_
                                      refine z_lsub hx hb d_Mod_make_237 ?_
                                      refine w_rdl (va_runS (As := [.long (lZ (((L4 ww mo tl d k) (d + k)) - ((tl d) * (mo k))))]) (rest := [.int (iZ (d + k)), .ref ((ma 9))]) ⟨hx, hb, hml, hown, hts⟩ (c_modulo l (((L4 ww mo tl d k) (d + k)) - ((tl d) * (mo k))) (by omega)) (va_cwS 1 hts g_Mod_61 rfl rfl rfl (by decide +kernel) ⟨Nat.le_of_ble_eq_true rfl, Nat.le_of_ble_eq_true rfl⟩) preEq rfl rfl hl.1 rfl (lv_room (Nat.le_of_ble_eq_true rfl)) d_Mod_make_238 ⟨Nat.le_of_ble_eq_true rfl, Nat.le_of_ble_eq_true rfl⟩) ?_
                                      have hm_238 := md_r (((L4 ww mo tl d k) (d + k)) - ((tl d) * (mo k)))
                                      refine z_last (wf := [((ma 0), .inr (5, [.int (iZ (cd)), .ref ((ma 1)), .ref ((ma 2)), .ref ((ma 3)), .ref ((ma 4)), .ref ((ma 5)), .int (iZ (td)), .int (iZ (mn)), .ref ((ma 6)), .ref ((ma 7)), .ref ((ma 8)), .ref ((ma 9)), .ref ((ma 10)), .ref ((ma 11)), .ref ((ma 12))])), ((ma 1), .inl (cA, 3, .inl (aR f))), ((ma 2), .inl (cA, 5, .inl (aR g))), ((ma 3), .inl (cJ, 5, .inr (.inl (aL rs)))), ((ma 4), .inl (cJ, 3, .inr (.inl (aL ww)))), ((ma 5), .inl (cJ, 5, .inr (.inl (aL mo)))), ((ma 6), .inl (cA, 2, .inl (aR dg))), ((ma 7), .inl (cJ, 26, .inr (.inl (aL pl)))), ((ma 8), .inl (cJ, 6, .inr (.inl (aL sl)))), ((ma 9), .inl (cJ, 20, .inr (.inl (aL (sT (L4 ww mo tl d k) (d + k) (md (((L4 ww mo tl d k) (d + k)) - ((tl d) * (mo k))))))))), ((ma 10), .inl (cJ, 13, .inr (.inl (aL tl)))), ((ma 11), .inl (cJ, 41, .inr (.inl (aL rw)))), ((ma 12), .inl (cA, 2, .inl (aR rt)))]) hx hb hK hP hD hS 9 1 rfl rfl (by omega) (by omega) (by omega) d_Mod_make_241 rfl (fun H locs hP hD hS => ?_)
                                      rw [L4_up (by omega)] at hP hD
                                      refine z_iinc (lv' := [(4, .int (iZ (k + 1))), (2, .long (lZ (tl d))), (1, .int (iZ (d))), (0, .ref ((ma 0)))]) hx hb d_Mod_make_242 hl (k := 0) rfl (by decide) rfl (fun ls hl => ?_)
                                      refine lv_goto (tgt := 205) hx hb d_Mod_make_245 (by decide) ?_
                                      exact ih_205 (k + 1) (by omega) (by omega) _ _ hP hD hS ls (lv_sub hl [0, 1, 2, 3] rfl)
                                exact loop_205 6 0 (by omega) (by omega) _ _ hP hD hS ls (lv_sub hl [0, 1, 2, 3] rfl)
                              · refine lv_aload_n hx hb d_Mod_make_152 rfl (lv_at hl 3 rfl) ?_
                                refine va_get (D := (dC, dI)) (ci := 5) (v := .ref ((ma 9))) (C := "OrderTwoCasesModel") (T := F_Mod) (N := 15) hx hb hts la_Mod hown hK hP 0 rfl rfl 11 (by decide) (hts _ k_475) (fun _ h9 => h9) rfl d_Mod_make_153 ?_
                                refine lv_iload_n hx hb d_Mod_make_156 rfl (lv_at hl 2 rfl) ?_
                                refine lv_iload hx hb d_Mod_make_157 (lv_at hl 0 rfl) ?_
                                refine z_iadd hx hb d_Mod_make_159 ?_
                                refine lv_aload_n hx hb d_Mod_make_160 rfl (lv_at hl 3 rfl) ?_
                                refine va_get (D := (dC, dI)) (ci := 5) (v := .ref ((ma 9))) (C := "OrderTwoCasesModel") (T := F_Mod) (N := 15) hx hb hts la_Mod hown hK hP 0 rfl rfl 11 (by decide) (hts _ k_475) (fun _ h9 => h9) rfl d_Mod_make_161 ?_
                                refine lv_iload_n hx hb d_Mod_make_164 rfl (lv_at hl 2 rfl) ?_
                                refine lv_iload hx hb d_Mod_make_165 (lv_at hl 0 rfl) ?_
                                refine z_iadd hx hb d_Mod_make_167 ?_
                                have hl9 := (show 0 ≤ L3 ww mo tl d k (d + k) ∧ L3 ww mo tl d k (d + k) < 32003 from md_r _)
                                have hd9 := mul_bdc 3 hv9 (show 0 ≤ k + 1 ∧ k + 1 ≤ 3 by omega)
                                have hd8 := mul_bd (md_r (tl d * (k + 1))) (hw3.r (k + 1))
                                refine z_lald hx hb hK hP 9 1 rfl rfl (by omega) (by omega) (by omega) d_Mod_make_168 ?_
                                refine lv_lload_n hx hb d_Mod_make_169 rfl (lv_at hl 1 rfl) ?_
                                refine lv_iload hx hb d_Mod_make_170 (lv_at hl 0 rfl) ?_
                                refine lv_iconst (v := iZ (1)) hx hb d_Mod_make_172 rfl ?_
                                refine z_iadd hx hb d_Mod_make_173 ?_
                                refine z_i2l hx hb d_Mod_make_174 (by omega) ?_
                                refine z_lmul hx hb d_Mod_make_175 ?_
                                refine lv_ldc2 (v := lZ (32003)) hx hb hown (show (Jvm.Cond.constantLong "OrderTwoCasesModel" 51 (lZ (32003))).before _ s = true from hts _ k_527) d_Mod_make_176 ?_
                                refine z_lremmd hx hb d_Mod_make_179 (by omega) ?_
                                refine lv_aload_n hx hb d_Mod_make_180 rfl (lv_at hl 3 rfl) ?_
                                refine va_get (D := (dC, dI)) (ci := 5) (v := .ref ((ma 4))) (C := "OrderTwoCasesModel") (T := F_Mod) (N := 15) hx hb hts la_Mod hown hK hP 0 rfl rfl 4 (by decide) (hts _ k_468) (fun _ h9 => h9) rfl d_Mod_make_181 ?_
                                refine lv_iload hx hb d_Mod_make_184 (lv_at hl 0 rfl) ?_
                                refine lv_iconst (v := iZ (1)) hx hb d_Mod_make_186 rfl ?_
                                refine z_iadd hx hb d_Mod_make_187 ?_
                                refine z_lald hx hb hK hP 4 1 rfl rfl (by omega) (by omega) (by omega) d_Mod_make_188 ?_
                                refine z_lmul hx hb d_Mod_make_189 ?_
                                refine z_ladd hx hb d_Mod_make_190 ?_
                                refine lv_ldc2 (v := lZ (32003)) hx hb hown (show (Jvm.Cond.constantLong "OrderTwoCasesModel" 51 (lZ (32003))).before _ s = true from hts _ k_527) d_Mod_make_191 ?_
                                refine z_lremmd hx hb d_Mod_make_194 (by omega) ?_
                                refine z_last (wf := [((ma 0), .inr (5, [.int (iZ (cd)), .ref ((ma 1)), .ref ((ma 2)), .ref ((ma 3)), .ref ((ma 4)), .ref ((ma 5)), .int (iZ (td)), .int (iZ (mn)), .ref ((ma 6)), .ref ((ma 7)), .ref ((ma 8)), .ref ((ma 9)), .ref ((ma 10)), .ref ((ma 11)), .ref ((ma 12))])), ((ma 1), .inl (cA, 3, .inl (aR f))), ((ma 2), .inl (cA, 5, .inl (aR g))), ((ma 3), .inl (cJ, 5, .inr (.inl (aL rs)))), ((ma 4), .inl (cJ, 3, .inr (.inl (aL ww)))), ((ma 5), .inl (cJ, 5, .inr (.inl (aL mo)))), ((ma 6), .inl (cA, 2, .inl (aR dg))), ((ma 7), .inl (cJ, 26, .inr (.inl (aL pl)))), ((ma 8), .inl (cJ, 6, .inr (.inl (aL sl)))), ((ma 9), .inl (cJ, 20, .inr (.inl (aL (sT (L3 ww mo tl d k) (d + k) (md (((L3 ww mo tl d k) (d + k)) + ((md ((tl d) * (k + 1))) * (ww (k + 1)))))))))), ((ma 10), .inl (cJ, 13, .inr (.inl (aL tl)))), ((ma 11), .inl (cJ, 41, .inr (.inl (aL rw)))), ((ma 12), .inl (cA, 2, .inl (aR rt)))]) hx hb hK hP hD hS 9 1 rfl rfl (by omega) (by omega) (by omega) d_Mod_make_195 rfl (fun H locs hP hD hS => ?_)
                                rw [L3_up (by omega)] at hP hD
                                refine z_iinc (lv' := [(4, .int (iZ (k + 1))), (2, .long (lZ (tl d))), (1, .int (iZ (d))), (0, .ref ((ma 0)))]) hx hb d_Mod_make_196 hl (k := 0) rfl (by decide) rfl (fun ls hl => ?_)
                                refine lv_goto (tgt := 146) hx hb d_Mod_make_199 (by decide) ?_
                                exact ih_146 (k + 1) (by omega) (by omega) _ _ hP hD hS ls (lv_sub hl [0, 1, 2, 3] rfl)
                          exact loop_146 3 0 (by omega) (by omega) _ _ hP hD hS ls (lv_sub hl [0, 1, 2, 3] rfl)
                        · refine lv_aload_n hx hb d_Mod_make_92 rfl (lv_at hl 3 rfl) ?_
                          refine va_get (D := (dC, dI)) (ci := 5) (v := .ref ((ma 9))) (C := "OrderTwoCasesModel") (T := F_Mod) (N := 15) hx hb hts la_Mod hown hK hP 0 rfl rfl 11 (by decide) (hts _ k_475) (fun _ h9 => h9) rfl d_Mod_make_93 ?_
                          refine lv_iload_n hx hb d_Mod_make_96 rfl (lv_at hl 2 rfl) ?_
                          refine lv_iconst (v := iZ (1)) hx hb d_Mod_make_97 rfl ?_
                          refine z_isub hx hb d_Mod_make_98 ?_
                          refine lv_iload hx hb d_Mod_make_99 (lv_at hl 0 rfl) ?_
                          refine z_iadd hx hb d_Mod_make_101 ?_
                          refine lv_aload_n hx hb d_Mod_make_102 rfl (lv_at hl 3 rfl) ?_
                          refine va_get (D := (dC, dI)) (ci := 5) (v := .ref ((ma 9))) (C := "OrderTwoCasesModel") (T := F_Mod) (N := 15) hx hb hts la_Mod hown hK hP 0 rfl rfl 11 (by decide) (hts _ k_475) (fun _ h9 => h9) rfl d_Mod_make_103 ?_
                          refine lv_iload_n hx hb d_Mod_make_106 rfl (lv_at hl 2 rfl) ?_
                          refine lv_iconst (v := iZ (1)) hx hb d_Mod_make_107 rfl ?_
                          refine z_isub hx hb d_Mod_make_108 ?_
                          refine lv_iload hx hb d_Mod_make_109 (lv_at hl 0 rfl) ?_
                          refine z_iadd hx hb d_Mod_make_111 ?_
                          have hl9 := (show 0 ≤ L2 ww mo tl d k (d - 1 + k) ∧ L2 ww mo tl d k (d - 1 + k) < 32003 from md_r _)
                          have hd9 := mul_bdc 24 hv9 (show 0 ≤ 2 * d ∧ 2 * d ≤ 24 by omega)
                          have hd8 := mul_bd (md_r (tl d * (2 * d))) (hw3.r k)
                          refine z_lald hx hb hK hP 9 1 rfl rfl (by omega) (by omega) (by omega) d_Mod_make_112 ?_
                          refine lv_lload_n hx hb d_Mod_make_113 rfl (lv_at hl 1 rfl) ?_
                          refine lv_iconst (v := iZ (2)) hx hb d_Mod_make_114 rfl ?_
                          refine lv_iload_n hx hb d_Mod_make_115 rfl (lv_at hl 2 rfl) ?_
                          refine z_imul hx hb d_Mod_make_116 ?_
                          refine z_i2l hx hb d_Mod_make_117 (by omega) ?_
                          refine z_lmul hx hb d_Mod_make_118 ?_
                          refine lv_ldc2 (v := lZ (32003)) hx hb hown (show (Jvm.Cond.constantLong "OrderTwoCasesModel" 51 (lZ (32003))).before _ s = true from hts _ k_527) d_Mod_make_119 ?_
                          refine z_lremmd hx hb d_Mod_make_122 (by omega) ?_
                          refine lv_aload_n hx hb d_Mod_make_123 rfl (lv_at hl 3 rfl) ?_
                          refine va_get (D := (dC, dI)) (ci := 5) (v := .ref ((ma 4))) (C := "OrderTwoCasesModel") (T := F_Mod) (N := 15) hx hb hts la_Mod hown hK hP 0 rfl rfl 4 (by decide) (hts _ k_468) (fun _ h9 => h9) rfl d_Mod_make_124 ?_
                          refine lv_iload hx hb d_Mod_make_127 (lv_at hl 0 rfl) ?_
                          refine z_lald hx hb hK hP 4 1 rfl rfl (by omega) (by omega) (by omega) d_Mod_make_129 ?_
                          refine z_lmul hx hb d_Mod_make_130 ?_
                          refine z_ladd hx hb d_Mod_make_131 ?_
                          refine lv_ldc2 (v := lZ (32003)) hx hb hown (show (Jvm.Cond.constantLong "OrderTwoCasesModel" 51 (lZ (32003))).before _ s = true from hts _ k_527) d_Mod_make_132 ?_
                          refine z_lremmd hx hb d_Mod_make_135 (by omega) ?_
                          refine z_last (wf := [((ma 0), .inr (5, [.int (iZ (cd)), .ref ((ma 1)), .ref ((ma 2)), .ref ((ma 3)), .ref ((ma 4)), .ref ((ma 5)), .int (iZ (td)), .int (iZ (mn)), .ref ((ma 6)), .ref ((ma 7)), .ref ((ma 8)), .ref ((ma 9)), .ref ((ma 10)), .ref ((ma 11)), .ref ((ma 12))])), ((ma 1), .inl (cA, 3, .inl (aR f))), ((ma 2), .inl (cA, 5, .inl (aR g))), ((ma 3), .inl (cJ, 5, .inr (.inl (aL rs)))), ((ma 4), .inl (cJ, 3, .inr (.inl (aL ww)))), ((ma 5), .inl (cJ, 5, .inr (.inl (aL mo)))), ((ma 6), .inl (cA, 2, .inl (aR dg))), ((ma 7), .inl (cJ, 26, .inr (.inl (aL pl)))), ((ma 8), .inl (cJ, 6, .inr (.inl (aL sl)))), ((ma 9), .inl (cJ, 20, .inr (.inl (aL (sT (L2 ww mo tl d k) ((d - 1) + k) (md (((L2 ww mo tl d k) ((d - 1) + k)) + ((md ((tl d) * (2 * d))) * (ww k))))))))), ((ma 10), .inl (cJ, 13, .inr (.inl (aL tl)))), ((ma 11), .inl (cJ, 41, .inr (.inl (aL rw)))), ((ma 12), .inl (cA, 2, .inl (aR rt)))]) hx hb hK hP hD hS 9 1 rfl rfl (by omega) (by omega) (by omega) d_Mod_make_136 rfl (fun H locs hP hD hS => ?_)
                          rw [L2_up (by omega)] at hP hD
                          refine z_iinc (lv' := [(4, .int (iZ (k + 1))), (2, .long (lZ (tl d))), (1, .int (iZ (d))), (0, .ref ((ma 0)))]) hx hb d_Mod_make_137 hl (k := 0) rfl (by decide) rfl (fun ls hl => ?_)
                          refine lv_goto (tgt := 82) hx hb d_Mod_make_140 (by decide) ?_
                          exact ih_82 (k + 1) (by omega) (by omega) (by omega) _ _ hP hD hS ls (lv_sub hl [0, 1, 2, 3] rfl)
                  exact loop_82 4 0 (by omega) (by omega) (by omega) _ _ hP hD hS ls (lv_sub hl [0, 1, 2, 3] rfl)
              · rw [L0_skip (by omega) (show tl d = 0 by omega)] at hP hD
                refine lv_goto (tgt := 248) hx hb d_Mod_make_42 (by decide) ?_
                refine z_iinc (lv' := [(1, .int (iZ (d + 1))), (2, .long (lZ (tl d))), (0, .ref ((ma 0)))]) hx hb d_Mod_make_248 hl (k := 1) rfl (by decide) rfl (fun ls hl => ?_)
                refine lv_goto (tgt := 23) hx hb d_Mod_make_251 (by decide) ?_
                exact ih_23 (d + 1) (by omega) (by omega) _ _ hP hD hS ls (lv_sub hl [0, 2] rfl)
        exact loop_23 14 0 (by omega) (by omega) _ _ hP hD hS ls (lv_sub hl [0, 1] rfl)
      · refine lv_aload_n hx hb d_Mod_make_8 rfl (lv_at hl 1 rfl) ?_
        refine va_get (D := (dC, dI)) (ci := 5) (v := .ref ((ma 9))) (C := "OrderTwoCasesModel") (T := F_Mod) (N := 15) hx hb hts la_Mod hown hK hP 0 rfl rfl 11 (by decide) (hts _ k_475) (fun _ h9 => h9) rfl d_Mod_make_9 ?_
        refine lv_iload_n hx hb d_Mod_make_12 rfl (lv_at hl 0 rfl) ?_
        refine lv_lconst (v := lZ (0)) hx hb d_Mod_make_13 (by decide +kernel) ?_
        refine z_last (wf := [((ma 0), .inr (5, [.int (iZ (cd)), .ref ((ma 1)), .ref ((ma 2)), .ref ((ma 3)), .ref ((ma 4)), .ref ((ma 5)), .int (iZ (td)), .int (iZ (mn)), .ref ((ma 6)), .ref ((ma 7)), .ref ((ma 8)), .ref ((ma 9)), .ref ((ma 10)), .ref ((ma 11)), .ref ((ma 12))])), ((ma 1), .inl (cA, 3, .inl (aR f))), ((ma 2), .inl (cA, 5, .inl (aR g))), ((ma 3), .inl (cJ, 5, .inr (.inl (aL rs)))), ((ma 4), .inl (cJ, 3, .inr (.inl (aL ww)))), ((ma 5), .inl (cJ, 5, .inr (.inl (aL mo)))), ((ma 6), .inl (cA, 2, .inl (aR dg))), ((ma 7), .inl (cJ, 26, .inr (.inl (aL pl)))), ((ma 8), .inl (cJ, 6, .inr (.inl (aL sl)))), ((ma 9), .inl (cJ, 20, .inr (.inl (aL (sT (fL (fun _ => 0) lf i) i 0))))), ((ma 10), .inl (cJ, 13, .inr (.inl (aL tl)))), ((ma 11), .inl (cJ, 41, .inr (.inl (aL rw)))), ((ma 12), .inl (cA, 2, .inl (aR rt)))]) hx hb hK hP hD hS 9 1 rfl rfl (by omega) (by omega) (by omega) d_Mod_make_14 rfl (fun H locs hP hD hS => ?_)
        rw [fL_st (fun _ => 0) lf (by omega) rfl] at hP hD
        refine z_iinc (lv' := [(1, .int (iZ (i + 1))), (0, .ref ((ma 0)))]) hx hb d_Mod_make_15 hl (k := 0) rfl (by decide) rfl (fun ls hl => ?_)
        refine lv_goto (tgt := 2) hx hb d_Mod_make_18 (by decide) ?_
        exact ih_2 (i + 1) (by omega) (by omega) _ _ hP hD hS ls (lv_sub hl [0, 1] rfl)
  rw [← fL_0 (fun _ => 0) lf] at hP hD
  exact loop_2 21 0 (by omega) (by omega) _ _ hP hD hS ls (lv_sub hl [0, 1] rfl)
