set_option maxHeartbeats 4000000 in
set_option maxRecDepth 100000 in
/-- find() -/
theorem c_find (l : Launch) (dC : Nat → ClassId) (dI : Nat → Nat → Nat) (cA cJ : ClassId) (sz : Nat) (ma : Nat → Nat) (f g rs ww mo dg pl sl lf tl rw rt : Int → Int) (cd td mn : Int) (hf : RoW 3 f) (hg : RoW 5 g) : Met l y_Mod_find w_Mod_find ({ frames := 2, cells := 0, slots := 0, locals := 55 }) (va_Pc [.ref ((ma 0))] (wP (dC, dI) vC [(cA, .int), (cJ, .long)] (mW cA cJ ma f g (rs, ww, mo, dg, pl, sl, lf, tl, rw, rt, cd, td, mn)) sz)) (va_Qi (fun (r9 : Int32) (u : MS) => r9 = iZ (kdz f g) ∧ rez f g = u.1 ∧ (kdz f g = 3 → u.2.2.2.2.2.2.2.2.2.1 0 = ltz f g ∧ u.2.2.2.2.2.2.2.2.2.1 1 = 32003 - ltz f g) ∧ ww = u.2.1 ∧ mo = u.2.2.1 ∧ dg = u.2.2.2.1 ∧ pl = u.2.2.2.2.1 ∧ sl = u.2.2.2.2.2.1 ∧ lf = u.2.2.2.2.2.2.1 ∧ tl = u.2.2.2.2.2.2.2.1 ∧ rw = u.2.2.2.2.2.2.2.2.1 ∧ cd = u.2.2.2.2.2.2.2.2.2.2.1 ∧ td = u.2.2.2.2.2.2.2.2.2.2.2.1 ∧ mn = u.2.2.2.2.2.2.2.2.2.2.2.2) (fun (u : MS) t => wB (dC, dI) vC (va_A (mW cA cJ ma f g (rs, ww, mo, dg, pl, sl, lf, tl, rw, rt, cd, td, mn)) sz) (mW cA cJ ma f g u) t) (va_A (mW cA cJ ma f g (rs, ww, mo, dg, pl, sl, lf, tl, rw, rt, cd, td, mn)) sz)) 0 0 (va_A (mW cA cJ ma f g (rs, ww, mo, dg, pl, sl, lf, tl, rw, rt, cd, td, mn)) sz) := by
  refine Met.ofW (cc := b_Mod_find) (maxL := 4) (ret := (Option.some Jvm.ClassFile.FieldType.int)) (by decide) rfl ?_
  intro p e s m args below meth c s₁ B hml hv
  obtain ⟨rfl, hsz, hP, hK, hD0⟩ := hv
  have hx := B.exec
  have hb := B.bytes
  have hr := B.returns
  have hts : ∀ w ∈ tT, w.before _ s = true := fun w h => atoms_spec (ws := w_Mod_find) B.pre w (List.mem_cons_of_mem _ h)
  have hown : s.vm.findClass "OrderTwoCasesModel" = some m.cls := findClass_of_methodNamed B.named
  have hlocks := B.notSynchronized
  subst hsz
  have hD := hD0.self (sz := s.heap.size)
  generalize hAe : va_A (mW cA cJ ma f g (rs, ww, mo, dg, pl, sl, lf, tl, rw, rt, cd, td, mn)) s.heap.size = A at hD ⊢
  have hA : ∀ q : Nat, s.heap.size ≤ q → A q := fun q h => by rw [← hAe]; exact Or.inr h
  have hS : va_S A s.heap s.heap [] := va_S.rf
  have hl := lv_entry ([.ref ((ma 0))]) (n := 4) (Nat.le_of_ble_eq_true rfl)
  rw [lg_entry_eq]
  generalize (lg_sl ([.ref ((ma 0))]) ++ List.replicate (4 - (lg_sl ([.ref ((ma 0))])).length) Slot.unset).toArray = ls at hl ⊢
  have hl : lv_has ls 4 [(0, .ref ((ma 0)))] := hl
  have hP : va_P (dC, dI) vC [((ma 0), .inr (5, [.int (iZ (cd)), .ref ((ma 1)), .ref ((ma 2)), .ref ((ma 3)), .ref ((ma 4)), .ref ((ma 5)), .int (iZ (td)), .int (iZ (mn)), .ref ((ma 6)), .ref ((ma 7)), .ref ((ma 8)), .ref ((ma 9)), .ref ((ma 10)), .ref ((ma 11)), .ref ((ma 12))])), ((ma 1), .inl (cA, 3, .inl (aR f))), ((ma 2), .inl (cA, 5, .inl (aR g))), ((ma 3), .inl (cJ, 5, .inr (.inl (aL rs)))), ((ma 4), .inl (cJ, 3, .inr (.inl (aL ww)))), ((ma 5), .inl (cJ, 5, .inr (.inl (aL mo)))), ((ma 6), .inl (cA, 2, .inl (aR dg))), ((ma 7), .inl (cJ, 26, .inr (.inl (aL pl)))), ((ma 8), .inl (cJ, 6, .inr (.inl (aL sl)))), ((ma 9), .inl (cJ, 20, .inr (.inl (aL lf)))), ((ma 10), .inl (cJ, 13, .inr (.inl (aL tl)))), ((ma 11), .inl (cJ, 41, .inr (.inl (aL rw)))), ((ma 12), .inl (cA, 2, .inl (aR rt)))] s.heap := hP
  have hD : va_D A [((ma 0), .inr (5, [.int (iZ (cd)), .ref ((ma 1)), .ref ((ma 2)), .ref ((ma 3)), .ref ((ma 4)), .ref ((ma 5)), .int (iZ (td)), .int (iZ (mn)), .ref ((ma 6)), .ref ((ma 7)), .ref ((ma 8)), .ref ((ma 9)), .ref ((ma 10)), .ref ((ma 11)), .ref ((ma 12))])), ((ma 1), .inl (cA, 3, .inl (aR f))), ((ma 2), .inl (cA, 5, .inl (aR g))), ((ma 3), .inl (cJ, 5, .inr (.inl (aL rs)))), ((ma 4), .inl (cJ, 3, .inr (.inl (aL ww)))), ((ma 5), .inl (cJ, 5, .inr (.inl (aL mo)))), ((ma 6), .inl (cA, 2, .inl (aR dg))), ((ma 7), .inl (cJ, 26, .inr (.inl (aL pl)))), ((ma 8), .inl (cJ, 6, .inr (.inl (aL sl)))), ((ma 9), .inl (cJ, 20, .inr (.inl (aL lf)))), ((ma 10), .inl (cJ, 13, .inr (.inl (aL tl)))), ((ma 11), .inl (cJ, 41, .inr (.inl (aL rw)))), ((ma 12), .inl (cA, 2, .inl (aR rt)))] := hD
  refine lv_aload_n hx hb d_Mod_find_0 rfl (lv_at hl 0 rfl) ?_
  refine w_callv (wn := fun (u : MS) => [((ma 0), .inr (5, [.int (iZ (u.2.2.2.2.2.2.2.2.2.2.1)), .ref ((ma 1)), .ref ((ma 2)), .ref ((ma 3)), .ref ((ma 4)), .ref ((ma 5)), .int (iZ (u.2.2.2.2.2.2.2.2.2.2.2.1)), .int (iZ (u.2.2.2.2.2.2.2.2.2.2.2.2)), .ref ((ma 6)), .ref ((ma 7)), .ref ((ma 8)), .ref ((ma 9)), .ref ((ma 10)), .ref ((ma 11)), .ref ((ma 12))])), ((ma 1), .inl (cA, 3, .inl (aR f))), ((ma 2), .inl (cA, 5, .inl (aR g))), ((ma 3), .inl (cJ, 5, .inr (.inl (aL u.1)))), ((ma 4), .inl (cJ, 3, .inr (.inl (aL u.2.1)))), ((ma 5), .inl (cJ, 5, .inr (.inl (aL u.2.2.1)))), ((ma 6), .inl (cA, 2, .inl (aR u.2.2.2.1))), ((ma 7), .inl (cJ, 26, .inr (.inl (aL u.2.2.2.2.1)))), ((ma 8), .inl (cJ, 6, .inr (.inl (aL u.2.2.2.2.2.1)))), ((ma 9), .inl (cJ, 20, .inr (.inl (aL u.2.2.2.2.2.2.1)))), ((ma 10), .inl (cJ, 13, .inr (.inl (aL u.2.2.2.2.2.2.2.1)))), ((ma 11), .inl (cJ, 41, .inr (.inl (aL u.2.2.2.2.2.2.2.2.1)))), ((ma 12), .inl (cA, 2, .inl (aR u.2.2.2.2.2.2.2.2.2.1)))]) (wf := fun (u : MS) => [((ma 0), .inr (5, [.int (iZ (u.2.2.2.2.2.2.2.2.2.2.1)), .ref ((ma 1)), .ref ((ma 2)), .ref ((ma 3)), .ref ((ma 4)), .ref ((ma 5)), .int (iZ (u.2.2.2.2.2.2.2.2.2.2.2.1)), .int (iZ (u.2.2.2.2.2.2.2.2.2.2.2.2)), .ref ((ma 6)), .ref ((ma 7)), .ref ((ma 8)), .ref ((ma 9)), .ref ((ma 10)), .ref ((ma 11)), .ref ((ma 12))])), ((ma 1), .inl (cA, 3, .inl (aR f))), ((ma 2), .inl (cA, 5, .inl (aR g))), ((ma 3), .inl (cJ, 5, .inr (.inl (aL u.1)))), ((ma 4), .inl (cJ, 3, .inr (.inl (aL u.2.1)))), ((ma 5), .inl (cJ, 5, .inr (.inl (aL u.2.2.1)))), ((ma 6), .inl (cA, 2, .inl (aR u.2.2.2.1))), ((ma 7), .inl (cJ, 26, .inr (.inl (aL u.2.2.2.2.1)))), ((ma 8), .inl (cJ, 6, .inr (.inl (aL u.2.2.2.2.2.1)))), ((ma 9), .inl (cJ, 20, .inr (.inl (aL u.2.2.2.2.2.2.1)))), ((ma 10), .inl (cJ, 13, .inr (.inl (aL u.2.2.2.2.2.2.2.1)))), ((ma 11), .inl (cJ, 41, .inr (.inl (aL u.2.2.2.2.2.2.2.2.1)))), ((ma 12), .inl (cA, 2, .inl (aR u.2.2.2.2.2.2.2.2.2.1)))]) (wr := []) (va_runV (As := []) (rest := []) ⟨hx, hb, hml, hown, hts⟩ (c_findRest l dC dI cA cJ s.heap.size ma f g rs ww mo dg pl sl lf tl rw rt cd td mn hf hg) (cwV 0 hts g_Mod_65 rfl rfl rfl (by decide +kernel) ⟨Nat.le_of_ble_eq_true rfl, Nat.le_of_ble_eq_true rfl⟩) (wP_preV hK hP hD [0, 1] rfl [0, 1, 2, 3, 4, 5, 6, 7, 8, 9, 10, 11, 12] (by decide) rfl rfl rfl rfl 0 rfl) rfl rfl hl.1 rfl (lv_room (Nat.le_of_ble_eq_true rfl)) d_Mod_find_1 ⟨Nat.le_of_ble_eq_true rfl, Nat.le_of_ble_eq_true rfl⟩) hP hD hS hA [0, 1, 2, 3, 4, 5, 6, 7, 8, 9, 10, 11, 12] [] [0, 1, 2, 3, 4, 5, 6, 7, 8, 9, 10, 11, 12] rfl rfl (by decide) (by decide) (by decide) (fun _ => rfl) (fun _ => rfl) (fun u H locs hw hP hD hS => ?_)
  obtain ⟨rs_0, ww_0, mo_0, dg_0, pl_0, sl_0, lf_0, tl_0, rw_0, rt_0, cd_0, td_0, mn_0⟩ := u
  obtain ⟨he_rs, he_ww, he_mo, he_dg, he_pl, he_sl, he_lf, he_tl, he_rw, he_rt, he_cd, he_td, he_mn⟩ := hw
  dsimp only at he_rs he_ww he_mo he_dg he_pl he_sl he_lf he_tl he_rw he_rt he_cd he_td he_mn
  subst he_rs he_ww he_mo he_dg he_pl he_sl he_lf he_tl he_rw he_rt he_cd he_td he_mn
  have hP : va_P (dC, dI) vC [((ma 0), .inr (5, [.int (iZ (cd)), .ref ((ma 1)), .ref ((ma 2)), .ref ((ma 3)), .ref ((ma 4)), .ref ((ma 5)), .int (iZ (td)), .int (iZ (mn)), .ref ((ma 6)), .ref ((ma 7)), .ref ((ma 8)), .ref ((ma 9)), .ref ((ma 10)), .ref ((ma 11)), .ref ((ma 12))])), ((ma 1), .inl (cA, 3, .inl (aR f))), ((ma 2), .inl (cA, 5, .inl (aR g))), ((ma 3), .inl (cJ, 5, .inr (.inl (aL (rez f g))))), ((ma 4), .inl (cJ, 3, .inr (.inl (aL ww)))), ((ma 5), .inl (cJ, 5, .inr (.inl (aL mo)))), ((ma 6), .inl (cA, 2, .inl (aR dg))), ((ma 7), .inl (cJ, 26, .inr (.inl (aL pl)))), ((ma 8), .inl (cJ, 6, .inr (.inl (aL sl)))), ((ma 9), .inl (cJ, 20, .inr (.inl (aL lf)))), ((ma 10), .inl (cJ, 13, .inr (.inl (aL tl)))), ((ma 11), .inl (cJ, 41, .inr (.inl (aL rw)))), ((ma 12), .inl (cA, 2, .inl (aR rt)))] H := hP
  have hD : va_D A [((ma 0), .inr (5, [.int (iZ (cd)), .ref ((ma 1)), .ref ((ma 2)), .ref ((ma 3)), .ref ((ma 4)), .ref ((ma 5)), .int (iZ (td)), .int (iZ (mn)), .ref ((ma 6)), .ref ((ma 7)), .ref ((ma 8)), .ref ((ma 9)), .ref ((ma 10)), .ref ((ma 11)), .ref ((ma 12))])), ((ma 1), .inl (cA, 3, .inl (aR f))), ((ma 2), .inl (cA, 5, .inl (aR g))), ((ma 3), .inl (cJ, 5, .inr (.inl (aL (rez f g))))), ((ma 4), .inl (cJ, 3, .inr (.inl (aL ww)))), ((ma 5), .inl (cJ, 5, .inr (.inl (aL mo)))), ((ma 6), .inl (cA, 2, .inl (aR dg))), ((ma 7), .inl (cJ, 26, .inr (.inl (aL pl)))), ((ma 8), .inl (cJ, 6, .inr (.inl (aL sl)))), ((ma 9), .inl (cJ, 20, .inr (.inl (aL lf)))), ((ma 10), .inl (cJ, 13, .inr (.inl (aL tl)))), ((ma 11), .inl (cJ, 41, .inr (.inl (aL rw)))), ((ma 12), .inl (cA, 2, .inl (aR rt)))] := hD
  refine lv_aload_n hx hb d_Mod_find_4 rfl (lv_at hl 0 rfl) ?_
  refine w_rdi (va_runV (As := []) (rest := []) ⟨hx, hb, hml, hown, hts⟩ (c_high l dC dI cA cJ ma f g (rez f g) ww mo dg pl sl lf tl rw rt cd td mn (rez_row _ _)) (cwV 0 hts g_Mod_71 rfl rfl rfl (by decide +kernel) ⟨Nat.le_of_ble_eq_true rfl, Nat.le_of_ble_eq_true rfl⟩) (wR_preV hK hP [0, 1] rfl [0, 1, 2, 3, 4, 5, 6, 7, 8, 9, 10, 11, 12] rfl rfl rfl 0 rfl) rfl rfl hl.1 rfl (lv_room (Nat.le_of_ble_eq_true rfl)) d_Mod_find_5 ⟨Nat.le_of_ble_eq_true rfl, Nat.le_of_ble_eq_true rfl⟩) ?_
  refine lv_istore_n (lv' := [(1, .int (iZ (tpz (rez f g) 5))), (0, .ref ((ma 0)))]) hx hb d_Mod_find_8 rfl hl (by decide) rfl (fun ls hl => ?_)
  have htop := top_r f g
  refine lv_iload_n hx hb d_Mod_find_9 rfl (lv_at hl 0 rfl) ?_
  refine z_if_ge (tgt := 15) hx hb d_Mod_find_10 (by decide) (by omega) (fun c_10 => ?_) (fun c_10 => ?_)
  · refine lv_iload_n hx hb d_Mod_find_15 rfl (lv_at hl 0 rfl) ?_
    refine lv_iconst (v := iZ (2)) hx hb d_Mod_find_16 rfl ?_
    refine z_irem hx hb d_Mod_find_17 (by omega) (by decide) (by decide) ?_
    refine lv_iconst (v := iZ (1)) hx hb d_Mod_find_18 rfl ?_
    refine z_icmp_ne (tgt := 24) hx hb d_Mod_find_19 (by decide) (by rw [tm2 c_10]; omega) (by decide) (fun c_19 => ?_) (fun c_19 => ?_)
    · have ht2 := tm2 c_10
      have ht0 : (tpz (rez f g) 5).tmod 2 = 0 := by omega
      have hv9 : 0 < (rez f g (tpz (rez f g) 5)) ∧ (rez f g (tpz (rez f g) 5)) < 32003 := by have a := tpz_ne c_10; have b := (rez_row f g).r (tpz (rez f g) 5); omega
      have hL9 : 0 ≤ ltz f g → 0 < ltz f g ∧ ltz f g < 32003 - ltz f g := fun q => ⟨(lr_spec hv9 q).1, (lr_spec hv9 q).2.1⟩
      refine lv_iconst (v := iZ (0)) hx hb d_Mod_find_24 rfl ?_
      refine lv_istore_n (lv' := [(2, .int (iZ (0))), (1, .int (iZ (tpz (rez f g) 5))), (0, .ref ((ma 0)))]) hx hb d_Mod_find_25 rfl hl (by decide) rfl (fun ls hl => ?_)
      refine lv_iconst (v := iZ (1)) hx hb d_Mod_find_26 rfl ?_
      refine lv_istore_n (lv' := [(3, .int (iZ (1))), (2, .int (iZ (0))), (1, .int (iZ (tpz (rez f g) 5))), (0, .ref ((ma 0)))]) hx hb d_Mod_find_27 rfl hl (by decide) rfl (fun ls hl => ?_)
      have loop_28 : ∀ (m_28 : Nat) (x : Int) (sn : Int) (q : Int → Int) (hx9 : 1 ≤ x ∧ x ≤ 32003) (hfd : fdI (ltz f g) x sn q) (hmeas : 32003 - x < (m_28 : Int)) (H : Heap) (locs : List Loc) (hP : va_P (dC, dI) vC [((ma 0), .inr (5, [.int (iZ (cd)), .ref ((ma 1)), .ref ((ma 2)), .ref ((ma 3)), .ref ((ma 4)), .ref ((ma 5)), .int (iZ (td)), .int (iZ (mn)), .ref ((ma 6)), .ref ((ma 7)), .ref ((ma 8)), .ref ((ma 9)), .ref ((ma 10)), .ref ((ma 11)), .ref ((ma 12))])), ((ma 1), .inl (cA, 3, .inl (aR f))), ((ma 2), .inl (cA, 5, .inl (aR g))), ((ma 3), .inl (cJ, 5, .inr (.inl (aL (rez f g))))), ((ma 4), .inl (cJ, 3, .inr (.inl (aL ww)))), ((ma 5), .inl (cJ, 5, .inr (.inl (aL mo)))), ((ma 6), .inl (cA, 2, .inl (aR dg))), ((ma 7), .inl (cJ, 26, .inr (.inl (aL pl)))), ((ma 8), .inl (cJ, 6, .inr (.inl (aL sl)))), ((ma 9), .inl (cJ, 20, .inr (.inl (aL lf)))), ((ma 10), .inl (cJ, 13, .inr (.inl (aL tl)))), ((ma 11), .inl (cJ, 41, .inr (.inl (aL rw)))), ((ma 12), .inl (cA, 2, .inl (aR q)))] H) (hD : va_D A [((ma 0), .inr (5, [.int (iZ (cd)), .ref ((ma 1)), .ref ((ma 2)), .ref ((ma 3)), .ref ((ma 4)), .ref ((ma 5)), .int (iZ (td)), .int (iZ (mn)), .ref ((ma 6)), .ref ((ma 7)), .ref ((ma 8)), .ref ((ma 9)), .ref ((ma 10)), .ref ((ma 11)), .ref ((ma 12))])), ((ma 1), .inl (cA, 3, .inl (aR f))), ((ma 2), .inl (cA, 5, .inl (aR g))), ((ma 3), .inl (cJ, 5, .inr (.inl (aL (rez f g))))), ((ma 4), .inl (cJ, 3, .inr (.inl (aL ww)))), ((ma 5), .inl (cJ, 5, .inr (.inl (aL mo)))), ((ma 6), .inl (cA, 2, .inl (aR dg))), ((ma 7), .inl (cJ, 26, .inr (.inl (aL pl)))), ((ma 8), .inl (cJ, 6, .inr (.inl (aL sl)))), ((ma 9), .inl (cJ, 20, .inr (.inl (aL lf)))), ((ma 10), .inl (cJ, 13, .inr (.inl (aL tl)))), ((ma 11), .inl (cJ, 41, .inr (.inl (aL rw)))), ((ma 12), .inl (cA, 2, .inl (aR q)))]) (hS : va_S A s.heap H locs) (ls : Array Slot) (hl : lv_has ls 4 [(3, .int (iZ (x))), (2, .int (iZ (sn))), (1, .int (iZ (tpz (rez f g) 5))), (0, .ref ((ma 0)))]), W p l e ({ frames := 2, cells := 0, slots := 0, locals := 55 } : Room) s m ([.ref ((ma 0))] : List Value).toArray below meth c H locs 0 0 (MQ below (va_Qi (fun (r9 : Int32) (u : MS) => r9 = iZ (kdz f g) ∧ rez f g = u.1 ∧ (kdz f g = 3 → u.2.2.2.2.2.2.2.2.2.1 0 = ltz f g ∧ u.2.2.2.2.2.2.2.2.2.1 1 = 32003 - ltz f g) ∧ ww = u.2.1 ∧ mo = u.2.2.1 ∧ dg = u.2.2.2.1 ∧ pl = u.2.2.2.2.1 ∧ sl = u.2.2.2.2.2.1 ∧ lf = u.2.2.2.2.2.2.1 ∧ tl = u.2.2.2.2.2.2.2.1 ∧ rw = u.2.2.2.2.2.2.2.2.1 ∧ cd = u.2.2.2.2.2.2.2.2.2.2.1 ∧ td = u.2.2.2.2.2.2.2.2.2.2.2.1 ∧ mn = u.2.2.2.2.2.2.2.2.2.2.2.2) (fun (u : MS) t => wB (dC, dI) vC A (mW cA cJ ma f g u) t) A) ([.ref ((ma 0))] : List Value).toArray s 0 0 A) (F0 m 28 ls []) := by
        intro m_28
        induction m_28 with
        | zero =>
          intro x sn q hx9 hfd hmeas
          exfalso; omega
        | succ m_28 ih_28 =>
          intro x sn q hx9 hfd hmeas H locs hP hD hS ls hl
          refine lv_iload_n hx hb d_Mod_find_28 rfl (lv_at hl 0 rfl) ?_
          refine lv_sipush (v := iZ (32003)) hx hb d_Mod_find_29 (by decide +kernel) ?_
          refine z_icmp_ge (tgt := 78) hx hb d_Mod_find_32 (by decide) (by omega) (by omega) (fun c_32 => ?_) (fun c_32 => ?_)
          · have hE := fd_end hv9 (show ltz f g = lrz _ from rfl) hfd (by omega)
            refine lv_iload_n hx hb d_Mod_find_78 rfl (lv_at hl 1 rfl) ?_
            refine z_if_ne (tgt := 86) hx hb d_Mod_find_79 (by decide) (by have := fd_r hfd; omega) (fun c_79 => ?_) (fun c_79 => ?_)
            · refine lv_iconst (v := iZ (3)) hx hb d_Mod_find_86 rfl ?_
              have hR : q 0 = ltz f g ∧ q 1 = 32003 - ltz f g := by omega
              exact w_iret (post := fun (r9 : Int32) (u : MS) => r9 = iZ (kdz f g) ∧ rez f g = u.1 ∧ (kdz f g = 3 → u.2.2.2.2.2.2.2.2.2.1 0 = ltz f g ∧ u.2.2.2.2.2.2.2.2.2.1 1 = 32003 - ltz f g) ∧ ww = u.2.1 ∧ mo = u.2.2.1 ∧ dg = u.2.2.2.1 ∧ pl = u.2.2.2.2.1 ∧ sl = u.2.2.2.2.2.1 ∧ lf = u.2.2.2.2.2.2.1 ∧ tl = u.2.2.2.2.2.2.2.1 ∧ rw = u.2.2.2.2.2.2.2.2.1 ∧ cd = u.2.2.2.2.2.2.2.2.2.2.1 ∧ td = u.2.2.2.2.2.2.2.2.2.2.2.1 ∧ mn = u.2.2.2.2.2.2.2.2.2.2.2.2) (wn := fun (u : MS) => mW cA cJ ma f g u) hx hb hr hlocks (rez f g, ww, mo, dg, pl, sl, lf, tl, rw, q, cd, td, mn) ⟨by rw [kd_3 c_10 ht0 (by omega)], rfl, fun _ => hR, rfl, rfl, rfl, rfl, rfl, rfl, rfl, rfl, rfl, rfl, rfl⟩ hP hD hS d_Mod_find_87
            · refine lv_iconst (v := iZ (2)) hx hb d_Mod_find_82 rfl ?_
              refine lv_goto (tgt := 87) hx hb d_Mod_find_83 (by decide) ?_
              exact w_iret (post := fun (r9 : Int32) (u : MS) => r9 = iZ (kdz f g) ∧ rez f g = u.1 ∧ (kdz f g = 3 → u.2.2.2.2.2.2.2.2.2.1 0 = ltz f g ∧ u.2.2.2.2.2.2.2.2.2.1 1 = 32003 - ltz f g) ∧ ww = u.2.1 ∧ mo = u.2.2.1 ∧ dg = u.2.2.2.1 ∧ pl = u.2.2.2.2.1 ∧ sl = u.2.2.2.2.2.1 ∧ lf = u.2.2.2.2.2.2.1 ∧ tl = u.2.2.2.2.2.2.2.1 ∧ rw = u.2.2.2.2.2.2.2.2.1 ∧ cd = u.2.2.2.2.2.2.2.2.2.2.1 ∧ td = u.2.2.2.2.2.2.2.2.2.2.2.1 ∧ mn = u.2.2.2.2.2.2.2.2.2.2.2.2) (wn := fun (u : MS) => mW cA cJ ma f g u) hx hb hr hlocks (rez f g, ww, mo, dg, pl, sl, lf, tl, rw, q, cd, td, mn) ⟨by rw [kd_2 c_10 ht0 (by omega)], rfl, fun q => by rw [kd_2 c_10 ht0 (by omega)] at q; omega, rfl, rfl, rfl, rfl, rfl, rfl, rfl, rfl, rfl, rfl, rfl⟩ hP hD hS d_Mod_find_87
          · refine lv_iload_n hx hb d_Mod_find_35 rfl (lv_at hl 1 rfl) ?_
            refine lv_iconst (v := iZ (2)) hx hb d_Mod_find_36 rfl ?_
            refine z_icmp_ge (tgt := 78) hx hb d_Mod_find_37 (by decide) (by have := fd_r hfd; omega) (by decide) (fun c_37 => ?_) (fun c_37 => ?_)
            · have hE := fd_end hv9 (show ltz f g = lrz _ from rfl) hfd (by omega)
              refine lv_iload_n hx hb d_Mod_find_78 rfl (lv_at hl 1 rfl) ?_
              refine z_if_ne (tgt := 86) hx hb d_Mod_find_79 (by decide) (by have := fd_r hfd; omega) (fun c_79 => ?_) (fun c_79 => ?_)
              · refine lv_iconst (v := iZ (3)) hx hb d_Mod_find_86 rfl ?_
                have hR : q 0 = ltz f g ∧ q 1 = 32003 - ltz f g := by omega
                exact w_iret (post := fun (r9 : Int32) (u : MS) => r9 = iZ (kdz f g) ∧ rez f g = u.1 ∧ (kdz f g = 3 → u.2.2.2.2.2.2.2.2.2.1 0 = ltz f g ∧ u.2.2.2.2.2.2.2.2.2.1 1 = 32003 - ltz f g) ∧ ww = u.2.1 ∧ mo = u.2.2.1 ∧ dg = u.2.2.2.1 ∧ pl = u.2.2.2.2.1 ∧ sl = u.2.2.2.2.2.1 ∧ lf = u.2.2.2.2.2.2.1 ∧ tl = u.2.2.2.2.2.2.2.1 ∧ rw = u.2.2.2.2.2.2.2.2.1 ∧ cd = u.2.2.2.2.2.2.2.2.2.2.1 ∧ td = u.2.2.2.2.2.2.2.2.2.2.2.1 ∧ mn = u.2.2.2.2.2.2.2.2.2.2.2.2) (wn := fun (u : MS) => mW cA cJ ma f g u) hx hb hr hlocks (rez f g, ww, mo, dg, pl, sl, lf, tl, rw, q, cd, td, mn) ⟨by rw [kd_3 c_10 ht0 (by omega)], rfl, fun _ => hR, rfl, rfl, rfl, rfl, rfl, rfl, rfl, rfl, rfl, rfl, rfl⟩ hP hD hS d_Mod_find_87
              · refine lv_iconst (v := iZ (2)) hx hb d_Mod_find_82 rfl ?_
                refine lv_goto (tgt := 87) hx hb d_Mod_find_83 (by decide) ?_
                exact w_iret (post := fun (r9 : Int32) (u : MS) => r9 = iZ (kdz f g) ∧ rez f g = u.1 ∧ (kdz f g = 3 → u.2.2.2.2.2.2.2.2.2.1 0 = ltz f g ∧ u.2.2.2.2.2.2.2.2.2.1 1 = 32003 - ltz f g) ∧ ww = u.2.1 ∧ mo = u.2.2.1 ∧ dg = u.2.2.2.1 ∧ pl = u.2.2.2.2.1 ∧ sl = u.2.2.2.2.2.1 ∧ lf = u.2.2.2.2.2.2.1 ∧ tl = u.2.2.2.2.2.2.2.1 ∧ rw = u.2.2.2.2.2.2.2.2.1 ∧ cd = u.2.2.2.2.2.2.2.2.2.2.1 ∧ td = u.2.2.2.2.2.2.2.2.2.2.2.1 ∧ mn = u.2.2.2.2.2.2.2.2.2.2.2.2) (wn := fun (u : MS) => mW cA cJ ma f g u) hx hb hr hlocks (rez f g, ww, mo, dg, pl, sl, lf, tl, rw, q, cd, td, mn) ⟨by rw [kd_2 c_10 ht0 (by omega)], rfl, fun q => by rw [kd_2 c_10 ht0 (by omega)] at q; omega, rfl, rfl, rfl, rfl, rfl, rfl, rfl, rfl, rfl, rfl, rfl⟩ hP hD hS d_Mod_find_87
            · have hsn := fd_r hfd
              have hxx := mul_bd (a := x) (b := x) (by omega) (by omega)
              refine lv_iload_n hx hb d_Mod_find_40 rfl (lv_at hl 0 rfl) ?_
              refine z_i2l hx hb d_Mod_find_41 (by omega) ?_
              refine lv_iload_n hx hb d_Mod_find_42 rfl (lv_at hl 0 rfl) ?_
              refine z_i2l hx hb d_Mod_find_43 (by omega) ?_
              refine z_lmul hx hb d_Mod_find_44 ?_
              refine lv_ldc2 (v := lZ (32003)) hx hb hown (show (Jvm.Cond.constantLong "OrderTwoCasesModel" 51 (lZ (32003))).before _ s = true from hts _ k_527) d_Mod_find_45 ?_
              refine z_lremmd hx hb d_Mod_find_48 (by omega) ?_
              refine lv_aload_n hx hb d_Mod_find_49 rfl (lv_at hl 3 rfl) ?_
              refine va_get (D := (dC, dI)) (ci := 5) (v := .ref ((ma 3))) (C := "OrderTwoCasesModel") (T := F_Mod) (N := 15) hx hb hts la_Mod hown hK hP 0 rfl rfl 3 (by decide) (hts _ k_467) (fun _ h9 => h9) rfl d_Mod_find_50 ?_
              have hv8 := md_r (x * x)
              refine lv_iload_n hx hb d_Mod_find_53 rfl (lv_at hl 2 rfl) ?_
              refine z_lald hx hb hK hP 3 1 rfl rfl (by omega) (by omega) (by omega) d_Mod_find_54 ?_
              refine z_lcmp hx hb d_Mod_find_55 (by omega) (by omega) ?_
              have hcm_55 := cmz_s (md (x * x)) ((rez f g) (tpz (rez f g) 5))
              refine z_if_eq (tgt := 62) hx hb d_Mod_find_56 (by decide) (by omega) (fun c_56 => ?_) (fun c_56 => ?_)
              · refine lv_aload_n hx hb d_Mod_find_62 rfl (lv_at hl 3 rfl) ?_
                refine va_get (D := (dC, dI)) (ci := 5) (v := .ref ((ma 12))) (C := "OrderTwoCasesModel") (T := F_Mod) (N := 15) hx hb hts la_Mod hown hK hP 0 rfl rfl 14 (by decide) (hts _ k_478) (fun _ h9 => h9) rfl d_Mod_find_63 ?_
                refine lv_iload_n hx hb d_Mod_find_66 rfl (lv_at hl 1 rfl) ?_
                refine lv_iload_n hx hb d_Mod_find_67 rfl (lv_at hl 0 rfl) ?_
                refine z_iast (wf := [((ma 0), .inr (5, [.int (iZ (cd)), .ref ((ma 1)), .ref ((ma 2)), .ref ((ma 3)), .ref ((ma 4)), .ref ((ma 5)), .int (iZ (td)), .int (iZ (mn)), .ref ((ma 6)), .ref ((ma 7)), .ref ((ma 8)), .ref ((ma 9)), .ref ((ma 10)), .ref ((ma 11)), .ref ((ma 12))])), ((ma 1), .inl (cA, 3, .inl (aR f))), ((ma 2), .inl (cA, 5, .inl (aR g))), ((ma 3), .inl (cJ, 5, .inr (.inl (aL (rez f g))))), ((ma 4), .inl (cJ, 3, .inr (.inl (aL ww)))), ((ma 5), .inl (cJ, 5, .inr (.inl (aL mo)))), ((ma 6), .inl (cA, 2, .inl (aR dg))), ((ma 7), .inl (cJ, 26, .inr (.inl (aL pl)))), ((ma 8), .inl (cJ, 6, .inr (.inl (aL sl)))), ((ma 9), .inl (cJ, 20, .inr (.inl (aL lf)))), ((ma 10), .inl (cJ, 13, .inr (.inl (aL tl)))), ((ma 11), .inl (cJ, 41, .inr (.inl (aL rw)))), ((ma 12), .inl (cA, 2, .inl (aR (sT q sn x))))]) hx hb hK hP hD hS 12 0 rfl rfl (by omega) (by omega) (by omega) d_Mod_find_68 rfl (fun H locs hP hD hS => ?_)
                refine z_iinc (lv' := [(2, .int (iZ (sn + 1))), (3, .int (iZ (x))), (1, .int (iZ (tpz (rez f g) 5))), (0, .ref ((ma 0)))]) hx hb d_Mod_find_69 hl (k := 1) rfl (by decide) rfl (fun ls hl => ?_)
                refine z_iinc (lv' := [(3, .int (iZ (x + 1))), (2, .int (iZ (sn + 1))), (1, .int (iZ (tpz (rez f g) 5))), (0, .ref ((ma 0)))]) hx hb d_Mod_find_72 hl (k := 1) rfl (by decide) rfl (fun ls hl => ?_)
                refine lv_goto (tgt := 28) hx hb d_Mod_find_75 (by decide) ?_
                exact ih_28 (x + 1) (sn + 1) (sT q sn x) (by omega) (fd_hit hv9 rfl hfd (by omega) (by omega)) (by omega) _ _ hP hD hS ls (lv_sub hl [0, 1, 2, 3] rfl)
              · refine lv_goto (tgt := 72) hx hb d_Mod_find_59 (by decide) ?_
                refine z_iinc (lv' := [(3, .int (iZ (x + 1))), (2, .int (iZ (sn))), (1, .int (iZ (tpz (rez f g) 5))), (0, .ref ((ma 0)))]) hx hb d_Mod_find_72 hl (k := 0) rfl (by decide) rfl (fun ls hl => ?_)
                refine lv_goto (tgt := 28) hx hb d_Mod_find_75 (by decide) ?_
                exact ih_28 (x + 1) sn q (by omega) (fd_miss hv9 rfl hfd (by omega) (by omega)) (by omega) _ _ hP hD hS ls (lv_sub hl [0, 1, 2, 3] rfl)
      exact loop_28 32004 1 0 rt (by omega) (fd_0 hL9 _) (by omega) _ _ hP hD hS ls (lv_sub hl [0, 1, 2, 3] rfl)
    · refine lv_iconst (v := iZ (1)) hx hb d_Mod_find_22 rfl ?_
      exact w_iret (post := fun (r9 : Int32) (u : MS) => r9 = iZ (kdz f g) ∧ rez f g = u.1 ∧ (kdz f g = 3 → u.2.2.2.2.2.2.2.2.2.1 0 = ltz f g ∧ u.2.2.2.2.2.2.2.2.2.1 1 = 32003 - ltz f g) ∧ ww = u.2.1 ∧ mo = u.2.2.1 ∧ dg = u.2.2.2.1 ∧ pl = u.2.2.2.2.1 ∧ sl = u.2.2.2.2.2.1 ∧ lf = u.2.2.2.2.2.2.1 ∧ tl = u.2.2.2.2.2.2.2.1 ∧ rw = u.2.2.2.2.2.2.2.2.1 ∧ cd = u.2.2.2.2.2.2.2.2.2.2.1 ∧ td = u.2.2.2.2.2.2.2.2.2.2.2.1 ∧ mn = u.2.2.2.2.2.2.2.2.2.2.2.2) (wn := fun (u : MS) => mW cA cJ ma f g u) hx hb hr hlocks (rez f g, ww, mo, dg, pl, sl, lf, tl, rw, rt, cd, td, mn) ⟨by rw [kd_1 c_10 (by omega)], rfl, fun q => by rw [kd_1 c_10 (by omega)] at q; omega, rfl, rfl, rfl, rfl, rfl, rfl, rfl, rfl, rfl, rfl, rfl⟩ hP hD hS d_Mod_find_23
  · refine lv_iconst (v := iZ (0)) hx hb d_Mod_find_13 rfl ?_
    exact w_iret (post := fun (r9 : Int32) (u : MS) => r9 = iZ (kdz f g) ∧ rez f g = u.1 ∧ (kdz f g = 3 → u.2.2.2.2.2.2.2.2.2.1 0 = ltz f g ∧ u.2.2.2.2.2.2.2.2.2.1 1 = 32003 - ltz f g) ∧ ww = u.2.1 ∧ mo = u.2.2.1 ∧ dg = u.2.2.2.1 ∧ pl = u.2.2.2.2.1 ∧ sl = u.2.2.2.2.2.1 ∧ lf = u.2.2.2.2.2.2.1 ∧ tl = u.2.2.2.2.2.2.2.1 ∧ rw = u.2.2.2.2.2.2.2.2.1 ∧ cd = u.2.2.2.2.2.2.2.2.2.2.1 ∧ td = u.2.2.2.2.2.2.2.2.2.2.2.1 ∧ mn = u.2.2.2.2.2.2.2.2.2.2.2.2) (wn := fun (u : MS) => mW cA cJ ma f g u) hx hb hr hlocks (rez f g, ww, mo, dg, pl, sl, lf, tl, rw, rt, cd, td, mn) ⟨by rw [kd_0 (by omega)], rfl, fun q => by rw [kd_0 (by omega)] at q; omega, rfl, rfl, rfl, rfl, rfl, rfl, rfl, rfl, rfl, rfl, rfl⟩ hP hD hS d_Mod_find_14

theorem kdz_r (f g : Int → Int) : 0 ≤ kdz f g ∧ kdz f g ≤ 3 := by
  unfold kdz
  split
  · omega
  · split
    · omega
    · split <;> omega

set_option maxHeartbeats 4000000 in
set_option maxRecDepth 100000 in
/-- kind() -/
theorem c_mkind (l : Launch) (dC : Nat → ClassId) (dI : Nat → Nat → Nat) (cA cJ : ClassId) (sz : Nat) (ma : Nat → Nat) (f g rs ww mo dg pl sl lf tl rw rt : Int → Int) (cd td mn : Int) (hf : RoW 3 f) (hg : RoW 5 g) : Met l y_Mod_kind w_Mod_kind ({ frames := 3, cells := 0, slots := 0, locals := 78 }) (va_Pc [.ref ((ma 0))] (wP (dC, dI) vC [(cA, .int), (cJ, .long)] (mW cA cJ ma f g (rs, ww, mo, dg, pl, sl, lf, tl, rw, rt, cd, td, mn)) sz)) (va_Qi (fun (r9 : Int32) (u : MS) => r9 = iZ (kdz f g) ∧ u.2.2.2.2.2.2.2.2.2.2.1 = 0) (fun (u : MS) t => wB (dC, dI) vC (va_A (mW cA cJ ma f g (rs, ww, mo, dg, pl, sl, lf, tl, rw, rt, cd, td, mn)) sz) (mW cA cJ ma f g u) t) (va_A (mW cA cJ ma f g (rs, ww, mo, dg, pl, sl, lf, tl, rw, rt, cd, td, mn)) sz)) 0 0 (va_A (mW cA cJ ma f g (rs, ww, mo, dg, pl, sl, lf, tl, rw, rt, cd, td, mn)) sz) := by
  refine Met.ofW (cc := b_Mod_kind) (maxL := 1) (ret := (Option.some Jvm.ClassFile.FieldType.int)) (by decide) rfl ?_
  intro p e s m args below meth c s₁ B hml hv
  obtain ⟨rfl, hsz, hP, hK, hD0⟩ := hv
  have hx := B.exec
  have hb := B.bytes
  have hr := B.returns
  have hts : ∀ w ∈ tT, w.before _ s = true := fun w h => atoms_spec (ws := w_Mod_kind) B.pre w (List.mem_cons_of_mem _ h)
  have hown : s.vm.findClass "OrderTwoCasesModel" = some m.cls := findClass_of_methodNamed B.named
  have hlocks := B.notSynchronized
  subst hsz
  have hD := hD0.self (sz := s.heap.size)
  generalize hAe : va_A (mW cA cJ ma f g (rs, ww, mo, dg, pl, sl, lf, tl, rw, rt, cd, td, mn)) s.heap.size = A at hD ⊢
  have hA : ∀ q : Nat, s.heap.size ≤ q → A q := fun q h => by rw [← hAe]; exact Or.inr h
  have hS : va_S A s.heap s.heap [] := va_S.rf
  have hl := lv_entry ([.ref ((ma 0))]) (n := 1) (Nat.le_of_ble_eq_true rfl)
  rw [lg_entry_eq]
  generalize (lg_sl ([.ref ((ma 0))]) ++ List.replicate (1 - (lg_sl ([.ref ((ma 0))])).length) Slot.unset).toArray = ls at hl ⊢
  have hl : lv_has ls 1 [(0, .ref ((ma 0)))] := hl
  have hP : va_P (dC, dI) vC [((ma 0), .inr (5, [.int (iZ (cd)), .ref ((ma 1)), .ref ((ma 2)), .ref ((ma 3)), .ref ((ma 4)), .ref ((ma 5)), .int (iZ (td)), .int (iZ (mn)), .ref ((ma 6)), .ref ((ma 7)), .ref ((ma 8)), .ref ((ma 9)), .ref ((ma 10)), .ref ((ma 11)), .ref ((ma 12))])), ((ma 1), .inl (cA, 3, .inl (aR f))), ((ma 2), .inl (cA, 5, .inl (aR g))), ((ma 3), .inl (cJ, 5, .inr (.inl (aL rs)))), ((ma 4), .inl (cJ, 3, .inr (.inl (aL ww)))), ((ma 5), .inl (cJ, 5, .inr (.inl (aL mo)))), ((ma 6), .inl (cA, 2, .inl (aR dg))), ((ma 7), .inl (cJ, 26, .inr (.inl (aL pl)))), ((ma 8), .inl (cJ, 6, .inr (.inl (aL sl)))), ((ma 9), .inl (cJ, 20, .inr (.inl (aL lf)))), ((ma 10), .inl (cJ, 13, .inr (.inl (aL tl)))), ((ma 11), .inl (cJ, 41, .inr (.inl (aL rw)))), ((ma 12), .inl (cA, 2, .inl (aR rt)))] s.heap := hP
  have hD : va_D A [((ma 0), .inr (5, [.int (iZ (cd)), .ref ((ma 1)), .ref ((ma 2)), .ref ((ma 3)), .ref ((ma 4)), .ref ((ma 5)), .int (iZ (td)), .int (iZ (mn)), .ref ((ma 6)), .ref ((ma 7)), .ref ((ma 8)), .ref ((ma 9)), .ref ((ma 10)), .ref ((ma 11)), .ref ((ma 12))])), ((ma 1), .inl (cA, 3, .inl (aR f))), ((ma 2), .inl (cA, 5, .inl (aR g))), ((ma 3), .inl (cJ, 5, .inr (.inl (aL rs)))), ((ma 4), .inl (cJ, 3, .inr (.inl (aL ww)))), ((ma 5), .inl (cJ, 5, .inr (.inl (aL mo)))), ((ma 6), .inl (cA, 2, .inl (aR dg))), ((ma 7), .inl (cJ, 26, .inr (.inl (aL pl)))), ((ma 8), .inl (cJ, 6, .inr (.inl (aL sl)))), ((ma 9), .inl (cJ, 20, .inr (.inl (aL lf)))), ((ma 10), .inl (cJ, 13, .inr (.inl (aL tl)))), ((ma 11), .inl (cJ, 41, .inr (.inl (aL rw)))), ((ma 12), .inl (cA, 2, .inl (aR rt)))] := hD
  refine lv_aload_n hx hb d_Mod_kind_0 rfl (lv_at hl 0 rfl) ?_
  refine lv_iconst (v := iZ (0)) hx hb d_Mod_kind_1 rfl ?_
  refine va_put (D := (dC, dI)) (ci := 5) (v := .int (iZ (0))) (ty := .int) (C := "OrderTwoCasesModel") (T := F_Mod) (N := 15) hx hb hts la_Mod t_Mod tok_Mod nm_Mod hown hK hP hD hS 0 rfl rfl 0 (by decide) (hts _ k_464) (fun _ h9 => h9) rfl (by decide +kernel) rfl rfl (Nat.le_of_ble_eq_true rfl) d_Mod_kind_2 (fun H locs hP hD hS => ?_)
  have hP : va_P (dC, dI) vC [((ma 0), .inr (5, [.int (iZ (0)), .ref ((ma 1)), .ref ((ma 2)), .ref ((ma 3)), .ref ((ma 4)), .ref ((ma 5)), .int (iZ (td)), .int (iZ (mn)), .ref ((ma 6)), .ref ((ma 7)), .ref ((ma 8)), .ref ((ma 9)), .ref ((ma 10)), .ref ((ma 11)), .ref ((ma 12))])), ((ma 1), .inl (cA, 3, .inl (aR f))), ((ma 2), .inl (cA, 5, .inl (aR g))), ((ma 3), .inl (cJ, 5, .inr (.inl (aL rs)))), ((ma 4), .inl (cJ, 3, .inr (.inl (aL ww)))), ((ma 5), .inl (cJ, 5, .inr (.inl (aL mo)))), ((ma 6), .inl (cA, 2, .inl (aR dg))), ((ma 7), .inl (cJ, 26, .inr (.inl (aL pl)))), ((ma 8), .inl (cJ, 6, .inr (.inl (aL sl)))), ((ma 9), .inl (cJ, 20, .inr (.inl (aL lf)))), ((ma 10), .inl (cJ, 13, .inr (.inl (aL tl)))), ((ma 11), .inl (cJ, 41, .inr (.inl (aL rw)))), ((ma 12), .inl (cA, 2, .inl (aR rt)))] H := hP
  have hD : va_D A [((ma 0), .inr (5, [.int (iZ (0)), .ref ((ma 1)), .ref ((ma 2)), .ref ((ma 3)), .ref ((ma 4)), .ref ((ma 5)), .int (iZ (td)), .int (iZ (mn)), .ref ((ma 6)), .ref ((ma 7)), .ref ((ma 8)), .ref ((ma 9)), .ref ((ma 10)), .ref ((ma 11)), .ref ((ma 12))])), ((ma 1), .inl (cA, 3, .inl (aR f))), ((ma 2), .inl (cA, 5, .inl (aR g))), ((ma 3), .inl (cJ, 5, .inr (.inl (aL rs)))), ((ma 4), .inl (cJ, 3, .inr (.inl (aL ww)))), ((ma 5), .inl (cJ, 5, .inr (.inl (aL mo)))), ((ma 6), .inl (cA, 2, .inl (aR dg))), ((ma 7), .inl (cJ, 26, .inr (.inl (aL pl)))), ((ma 8), .inl (cJ, 6, .inr (.inl (aL sl)))), ((ma 9), .inl (cJ, 20, .inr (.inl (aL lf)))), ((ma 10), .inl (cJ, 13, .inr (.inl (aL tl)))), ((ma 11), .inl (cJ, 41, .inr (.inl (aL rw)))), ((ma 12), .inl (cA, 2, .inl (aR rt)))] := hD
  refine lv_aload_n hx hb d_Mod_kind_5 rfl (lv_at hl 0 rfl) ?_
  refine w_calli (wn := fun (u : MS) => [((ma 0), .inr (5, [.int (iZ (u.2.2.2.2.2.2.2.2.2.2.1)), .ref ((ma 1)), .ref ((ma 2)), .ref ((ma 3)), .ref ((ma 4)), .ref ((ma 5)), .int (iZ (u.2.2.2.2.2.2.2.2.2.2.2.1)), .int (iZ (u.2.2.2.2.2.2.2.2.2.2.2.2)), .ref ((ma 6)), .ref ((ma 7)), .ref ((ma 8)), .ref ((ma 9)), .ref ((ma 10)), .ref ((ma 11)), .ref ((ma 12))])), ((ma 1), .inl (cA, 3, .inl (aR f))), ((ma 2), .inl (cA, 5, .inl (aR g))), ((ma 3), .inl (cJ, 5, .inr (.inl (aL u.1)))), ((ma 4), .inl (cJ, 3, .inr (.inl (aL u.2.1)))), ((ma 5), .inl (cJ, 5, .inr (.inl (aL u.2.2.1)))), ((ma 6), .inl (cA, 2, .inl (aR u.2.2.2.1))), ((ma 7), .inl (cJ, 26, .inr (.inl (aL u.2.2.2.2.1)))), ((ma 8), .inl (cJ, 6, .inr (.inl (aL u.2.2.2.2.2.1)))), ((ma 9), .inl (cJ, 20, .inr (.inl (aL u.2.2.2.2.2.2.1)))), ((ma 10), .inl (cJ, 13, .inr (.inl (aL u.2.2.2.2.2.2.2.1)))), ((ma 11), .inl (cJ, 41, .inr (.inl (aL u.2.2.2.2.2.2.2.2.1)))), ((ma 12), .inl (cA, 2, .inl (aR u.2.2.2.2.2.2.2.2.2.1)))]) (wf := fun (u : MS) => [((ma 0), .inr (5, [.int (iZ (u.2.2.2.2.2.2.2.2.2.2.1)), .ref ((ma 1)), .ref ((ma 2)), .ref ((ma 3)), .ref ((ma 4)), .ref ((ma 5)), .int (iZ (u.2.2.2.2.2.2.2.2.2.2.2.1)), .int (iZ (u.2.2.2.2.2.2.2.2.2.2.2.2)), .ref ((ma 6)), .ref ((ma 7)), .ref ((ma 8)), .ref ((ma 9)), .ref ((ma 10)), .ref ((ma 11)), .ref ((ma 12))])), ((ma 1), .inl (cA, 3, .inl (aR f))), ((ma 2), .inl (cA, 5, .inl (aR g))), ((ma 3), .inl (cJ, 5, .inr (.inl (aL u.1)))), ((ma 4), .inl (cJ, 3, .inr (.inl (aL u.2.1)))), ((ma 5), .inl (cJ, 5, .inr (.inl (aL u.2.2.1)))), ((ma 6), .inl (cA, 2, .inl (aR u.2.2.2.1))), ((ma 7), .inl (cJ, 26, .inr (.inl (aL u.2.2.2.2.1)))), ((ma 8), .inl (cJ, 6, .inr (.inl (aL u.2.2.2.2.2.1)))), ((ma 9), .inl (cJ, 20, .inr (.inl (aL u.2.2.2.2.2.2.1)))), ((ma 10), .inl (cJ, 13, .inr (.inl (aL u.2.2.2.2.2.2.2.1)))), ((ma 11), .inl (cJ, 41, .inr (.inl (aL u.2.2.2.2.2.2.2.2.1)))), ((ma 12), .inl (cA, 2, .inl (aR u.2.2.2.2.2.2.2.2.2.1)))]) (wr := []) (va_runV (As := []) (rest := []) ⟨hx, hb, hml, hown, hts⟩ (c_find l dC dI cA cJ H.size ma f g rs ww mo dg pl sl lf tl rw rt 0 td mn hf hg) (cwV 0 hts g_Mod_75 rfl rfl rfl (by decide +kernel) ⟨Nat.le_of_ble_eq_true rfl, Nat.le_of_ble_eq_true rfl⟩) (wP_preV hK hP hD [0, 1] rfl [0, 1, 2, 3, 4, 5, 6, 7, 8, 9, 10, 11, 12] (by decide) rfl rfl rfl rfl 0 rfl) rfl rfl hl.1 rfl (lv_room (Nat.le_of_ble_eq_true rfl)) d_Mod_kind_6 ⟨Nat.le_of_ble_eq_true rfl, Nat.le_of_ble_eq_true rfl⟩) hP hD hS hA [0, 1, 2, 3, 4, 5, 6, 7, 8, 9, 10, 11, 12] [] [0, 1, 2, 3, 4, 5, 6, 7, 8, 9, 10, 11, 12] rfl rfl (by decide) (by decide) (by decide) (fun _ => rfl) (fun _ => rfl) (fun rr_0 u H locs hw hP hD hS => ?_)
  obtain ⟨rs_0, ww_0, mo_0, dg_0, pl_0, sl_0, lf_0, tl_0, rw_0, rt_0, cd_0, td_0, mn_0⟩ := u
  obtain ⟨rfl, he_rs, hroots, he_ww, he_mo, he_dg, he_pl, he_sl, he_lf, he_tl, he_rw, he_cd, he_td, he_mn⟩ := hw
  dsimp only at he_rs hroots he_ww he_mo he_dg he_pl he_sl he_lf he_tl he_rw he_cd he_td he_mn
  subst he_rs he_ww he_mo he_dg he_pl he_sl he_lf he_tl he_rw he_cd he_td he_mn
  have hP : va_P (dC, dI) vC [((ma 0), .inr (5, [.int (iZ (0)), .ref ((ma 1)), .ref ((ma 2)), .ref ((ma 3)), .ref ((ma 4)), .ref ((ma 5)), .int (iZ (td)), .int (iZ (mn)), .ref ((ma 6)), .ref ((ma 7)), .ref ((ma 8)), .ref ((ma 9)), .ref ((ma 10)), .ref ((ma 11)), .ref ((ma 12))])), ((ma 1), .inl (cA, 3, .inl (aR f))), ((ma 2), .inl (cA, 5, .inl (aR g))), ((ma 3), .inl (cJ, 5, .inr (.inl (aL (rez f g))))), ((ma 4), .inl (cJ, 3, .inr (.inl (aL ww)))), ((ma 5), .inl (cJ, 5, .inr (.inl (aL mo)))), ((ma 6), .inl (cA, 2, .inl (aR dg))), ((ma 7), .inl (cJ, 26, .inr (.inl (aL pl)))), ((ma 8), .inl (cJ, 6, .inr (.inl (aL sl)))), ((ma 9), .inl (cJ, 20, .inr (.inl (aL lf)))), ((ma 10), .inl (cJ, 13, .inr (.inl (aL tl)))), ((ma 11), .inl (cJ, 41, .inr (.inl (aL rw)))), ((ma 12), .inl (cA, 2, .inl (aR rt_0)))] H := hP
  have hD : va_D A [((ma 0), .inr (5, [.int (iZ (0)), .ref ((ma 1)), .ref ((ma 2)), .ref ((ma 3)), .ref ((ma 4)), .ref ((ma 5)), .int (iZ (td)), .int (iZ (mn)), .ref ((ma 6)), .ref ((ma 7)), .ref ((ma 8)), .ref ((ma 9)), .ref ((ma 10)), .ref ((ma 11)), .ref ((ma 12))])), ((ma 1), .inl (cA, 3, .inl (aR f))), ((ma 2), .inl (cA, 5, .inl (aR g))), ((ma 3), .inl (cJ, 5, .inr (.inl (aL (rez f g))))), ((ma 4), .inl (cJ, 3, .inr (.inl (aL ww)))), ((ma 5), .inl (cJ, 5, .inr (.inl (aL mo)))), ((ma 6), .inl (cA, 2, .inl (aR dg))), ((ma 7), .inl (cJ, 26, .inr (.inl (aL pl)))), ((ma 8), .inl (cJ, 6, .inr (.inl (aL sl)))), ((ma 9), .inl (cJ, 20, .inr (.inl (aL lf)))), ((ma 10), .inl (cJ, 13, .inr (.inl (aL tl)))), ((ma 11), .inl (cJ, 41, .inr (.inl (aL rw)))), ((ma 12), .inl (cA, 2, .inl (aR rt_0)))] := hD
  have hkdr := kdz_r f g
  exact w_iret (post := fun (r9 : Int32) (u : MS) => r9 = iZ (kdz f g) ∧ u.2.2.2.2.2.2.2.2.2.2.1 = 0) (wn := fun (u : MS) => mW cA cJ ma f g u) hx hb hr hlocks (rez f g, ww, mo, dg, pl, sl, lf, tl, rw, rt_0, 0, td, mn) ⟨rfl, rfl⟩ hP hD hS d_Mod_kind_9

set_option maxHeartbeats 4000000 in
set_option maxRecDepth 100000 in
/-- at(0, k) -/
theorem c_mat0 (l : Launch) (dC : Nat → ClassId) (dI : Nat → Nat → Nat) (cA cJ : ClassId) (sz : Nat) (ma : Nat → Nat) (f g rs ww mo dg pl sl lf tl rw rt : Int → Int) (cd td mn : Int) (hf : RoW 3 f) (hg : RoW 5 g) (k : Int) (hk : 0 ≤ k ∧ k ≤ 2) : Met l y_Mod_at w_Mod_at ({ frames := 2, cells := 0, slots := 0, locals := 55 }) (va_Pc [.ref ((ma 0)), .int (iZ (0)), .int (iZ (k))] (wP (dC, dI) vC [(cA, .int), (cJ, .long)] (mW cA cJ ma f g (rs, ww, mo, dg, pl, sl, lf, tl, rw, rt, cd, td, mn)) sz)) (va_Qi (fun (r9 : Int32) (u : MS) => r9 = iZ (f k) ∧ u.2.2.2.2.2.2.2.2.2.2.1 = 0) (fun (u : MS) t => wB (dC, dI) vC (va_A (mW cA cJ ma f g (rs, ww, mo, dg, pl, sl, lf, tl, rw, rt, cd, td, mn)) sz) (mW cA cJ ma f g u) t) (va_A (mW cA cJ ma f g (rs, ww, mo, dg, pl, sl, lf, tl, rw, rt, cd, td, mn)) sz)) 0 0 (va_A (mW cA cJ ma f g (rs, ww, mo, dg, pl, sl, lf, tl, rw, rt, cd, td, mn)) sz) := by
  refine Met.ofW (cc := b_Mod_at) (maxL := 3) (ret := (Option.some Jvm.ClassFile.FieldType.int)) (by decide) rfl ?_
  intro p e s m args below meth c s₁ B hml hv
  obtain ⟨rfl, hsz, hP, hK, hD0⟩ := hv
  have hx := B.exec
  have hb := B.bytes
  have hr := B.returns
  have hts : ∀ w ∈ tT, w.before _ s = true := fun w h => atoms_spec (ws := w_Mod_at) B.pre w (List.mem_cons_of_mem _ h)
  have hown : s.vm.findClass "OrderTwoCasesModel" = some m.cls := findClass_of_methodNamed B.named
  have hlocks := B.notSynchronized
  subst hsz
  have hD := hD0.self (sz := s.heap.size)
  generalize hAe : va_A (mW cA cJ ma f g (rs, ww, mo, dg, pl, sl, lf, tl, rw, rt, cd, td, mn)) s.heap.size = A at hD ⊢
  have hA : ∀ q : Nat, s.heap.size ≤ q → A q := fun q h => by rw [← hAe]; exact Or.inr h
  have hS : va_S A s.heap s.heap [] := va_S.rf
  have hl := lv_entry ([.ref ((ma 0)), .int (iZ (0)), .int (iZ (k))]) (n := 3) (Nat.le_of_ble_eq_true rfl)
  rw [lg_entry_eq]
  generalize (lg_sl ([.ref ((ma 0)), .int (iZ (0)), .int (iZ (k))]) ++ List.replicate (3 - (lg_sl ([.ref ((ma 0)), .int (iZ (0)), .int (iZ (k))])).length) Slot.unset).toArray = ls at hl ⊢
  have hl : lv_has ls 3 [(0, .ref ((ma 0))), (1, .int (iZ (0))), (2, .int (iZ (k)))] := hl
  have hP : va_P (dC, dI) vC [((ma 0), .inr (5, [.int (iZ (cd)), .ref ((ma 1)), .ref ((ma 2)), .ref ((ma 3)), .ref ((ma 4)), .ref ((ma 5)), .int (iZ (td)), .int (iZ (mn)), .ref ((ma 6)), .ref ((ma 7)), .ref ((ma 8)), .ref ((ma 9)), .ref ((ma 10)), .ref ((ma 11)), .ref ((ma 12))])), ((ma 1), .inl (cA, 3, .inl (aR f))), ((ma 2), .inl (cA, 5, .inl (aR g))), ((ma 3), .inl (cJ, 5, .inr (.inl (aL rs)))), ((ma 4), .inl (cJ, 3, .inr (.inl (aL ww)))), ((ma 5), .inl (cJ, 5, .inr (.inl (aL mo)))), ((ma 6), .inl (cA, 2, .inl (aR dg))), ((ma 7), .inl (cJ, 26, .inr (.inl (aL pl)))), ((ma 8), .inl (cJ, 6, .inr (.inl (aL sl)))), ((ma 9), .inl (cJ, 20, .inr (.inl (aL lf)))), ((ma 10), .inl (cJ, 13, .inr (.inl (aL tl)))), ((ma 11), .inl (cJ, 41, .inr (.inl (aL rw)))), ((ma 12), .inl (cA, 2, .inl (aR rt)))] s.heap := hP
  have hD : va_D A [((ma 0), .inr (5, [.int (iZ (cd)), .ref ((ma 1)), .ref ((ma 2)), .ref ((ma 3)), .ref ((ma 4)), .ref ((ma 5)), .int (iZ (td)), .int (iZ (mn)), .ref ((ma 6)), .ref ((ma 7)), .ref ((ma 8)), .ref ((ma 9)), .ref ((ma 10)), .ref ((ma 11)), .ref ((ma 12))])), ((ma 1), .inl (cA, 3, .inl (aR f))), ((ma 2), .inl (cA, 5, .inl (aR g))), ((ma 3), .inl (cJ, 5, .inr (.inl (aL rs)))), ((ma 4), .inl (cJ, 3, .inr (.inl (aL ww)))), ((ma 5), .inl (cJ, 5, .inr (.inl (aL mo)))), ((ma 6), .inl (cA, 2, .inl (aR dg))), ((ma 7), .inl (cJ, 26, .inr (.inl (aL pl)))), ((ma 8), .inl (cJ, 6, .inr (.inl (aL sl)))), ((ma 9), .inl (cJ, 20, .inr (.inl (aL lf)))), ((ma 10), .inl (cJ, 13, .inr (.inl (aL tl)))), ((ma 11), .inl (cJ, 41, .inr (.inl (aL rw)))), ((ma 12), .inl (cA, 2, .inl (aR rt)))] := hD
  refine lv_aload_n hx hb d_Mod_at_0 rfl (lv_at hl 0 rfl) ?_
  refine lv_iload_n hx hb d_Mod_at_1 rfl (lv_at hl 1 rfl) ?_
  refine z_i2l hx hb d_Mod_at_2 (by omega) ?_
  refine lv_lconst (v := lZ (0)) hx hb d_Mod_at_3 (by decide +kernel) ?_
  refine lv_ldc2 (v := lZ (2)) hx hb hown (show (Jvm.Cond.constantLong "OrderTwoCasesModel" 57 (lZ (2))).before _ s = true from hts _ k_522) d_Mod_at_4 ?_
  refine w_rdi (va_runS (As := [.long (lZ (0)), .long (lZ (0)), .long (lZ (2))]) (rest := [.ref ((ma 0))]) ⟨hx, hb, hml, hown, hts⟩ (c_min l 0 0 2 (by omega) (by omega) (by omega)) (va_cwS 3 hts g_Mod_53 rfl rfl rfl (by decide +kernel) ⟨Nat.le_of_ble_eq_true rfl, Nat.le_of_ble_eq_true rfl⟩) preEq rfl rfl hl.1 rfl (lv_room (Nat.le_of_ble_eq_true rfl)) d_Mod_at_7 ⟨Nat.le_of_ble_eq_true rfl, Nat.le_of_ble_eq_true rfl⟩) ?_
  rw [if_pos (show (0 : Int) ≤ 0 ∧ (0 : Int) ≤ 2 by omega)]
  refine z_if_ne (tgt := 17) hx hb d_Mod_at_10 (by decide) (by decide) (fun c_10 => ?_) (fun c_10 => ?_)
  · refine lv_iload_n hx hb d_Mod_at_17 rfl (lv_at hl 2 rfl) ?_
    refine z_i2l hx hb d_Mod_at_18 (by omega) ?_
    refine lv_lconst (v := lZ (0)) hx hb d_Mod_at_19 (by decide +kernel) ?_
    refine lv_iload_n hx hb d_Mod_at_20 rfl (lv_at hl 1 rfl) ?_
    refine z_if_ne (tgt := 30) hx hb d_Mod_at_21 (by decide) (by omega) (fun c_21 => ?_) (fun c_21 => ?_)
    · exfalso; omega
    · refine lv_ldc2 (v := lZ (2)) hx hb hown (show (Jvm.Cond.constantLong "OrderTwoCasesModel" 57 (lZ (2))).before _ s = true from hts _ k_522) d_Mod_at_24 ?_
      refine lv_goto (tgt := 33) hx hb d_Mod_at_27 (by decide) ?_
      refine w_rdi (va_runS (As := [.long (lZ (k)), .long (lZ (0)), .long (lZ (2))]) (rest := [.ref ((ma 0))]) ⟨hx, hb, hml, hown, hts⟩ (c_min l k 0 2 (by omega) (by omega) (by omega)) (va_cwS 3 hts g_Mod_53 rfl rfl rfl (by decide +kernel) ⟨Nat.le_of_ble_eq_true rfl, Nat.le_of_ble_eq_true rfl⟩) preEq rfl rfl hl.1 rfl (lv_room (Nat.le_of_ble_eq_true rfl)) d_Mod_at_33 ⟨Nat.le_of_ble_eq_true rfl, Nat.le_of_ble_eq_true rfl⟩) ?_
      rw [if_pos (show 0 ≤ k ∧ k ≤ 2 by omega)]
      refine z_if_ne (tgt := 43) hx hb d_Mod_at_36 (by decide) (by decide) (fun c_36 => ?_) (fun c_36 => ?_)
      · refine lv_iconst (v := iZ (0)) hx hb d_Mod_at_43 rfl ?_
        refine va_put (D := (dC, dI)) (ci := 5) (v := .int (iZ (0))) (ty := .int) (C := "OrderTwoCasesModel") (T := F_Mod) (N := 15) hx hb hts la_Mod t_Mod tok_Mod nm_Mod hown hK hP hD hS 0 rfl rfl 0 (by decide) (hts _ k_464) (fun _ h9 => h9) rfl (by decide +kernel) rfl rfl (Nat.le_of_ble_eq_true rfl) d_Mod_at_44 (fun H locs hP hD hS => ?_)
        have hP : va_P (dC, dI) vC [((ma 0), .inr (5, [.int (iZ (0)), .ref ((ma 1)), .ref ((ma 2)), .ref ((ma 3)), .ref ((ma 4)), .ref ((ma 5)), .int (iZ (td)), .int (iZ (mn)), .ref ((ma 6)), .ref ((ma 7)), .ref ((ma 8)), .ref ((ma 9)), .ref ((ma 10)), .ref ((ma 11)), .ref ((ma 12))])), ((ma 1), .inl (cA, 3, .inl (aR f))), ((ma 2), .inl (cA, 5, .inl (aR g))), ((ma 3), .inl (cJ, 5, .inr (.inl (aL rs)))), ((ma 4), .inl (cJ, 3, .inr (.inl (aL ww)))), ((ma 5), .inl (cJ, 5, .inr (.inl (aL mo)))), ((ma 6), .inl (cA, 2, .inl (aR dg))), ((ma 7), .inl (cJ, 26, .inr (.inl (aL pl)))), ((ma 8), .inl (cJ, 6, .inr (.inl (aL sl)))), ((ma 9), .inl (cJ, 20, .inr (.inl (aL lf)))), ((ma 10), .inl (cJ, 13, .inr (.inl (aL tl)))), ((ma 11), .inl (cJ, 41, .inr (.inl (aL rw)))), ((ma 12), .inl (cA, 2, .inl (aR rt)))] H := hP
        have hD : va_D A [((ma 0), .inr (5, [.int (iZ (0)), .ref ((ma 1)), .ref ((ma 2)), .ref ((ma 3)), .ref ((ma 4)), .ref ((ma 5)), .int (iZ (td)), .int (iZ (mn)), .ref ((ma 6)), .ref ((ma 7)), .ref ((ma 8)), .ref ((ma 9)), .ref ((ma 10)), .ref ((ma 11)), .ref ((ma 12))])), ((ma 1), .inl (cA, 3, .inl (aR f))), ((ma 2), .inl (cA, 5, .inl (aR g))), ((ma 3), .inl (cJ, 5, .inr (.inl (aL rs)))), ((ma 4), .inl (cJ, 3, .inr (.inl (aL ww)))), ((ma 5), .inl (cJ, 5, .inr (.inl (aL mo)))), ((ma 6), .inl (cA, 2, .inl (aR dg))), ((ma 7), .inl (cJ, 26, .inr (.inl (aL pl)))), ((ma 8), .inl (cJ, 6, .inr (.inl (aL sl)))), ((ma 9), .inl (cJ, 20, .inr (.inl (aL lf)))), ((ma 10), .inl (cJ, 13, .inr (.inl (aL tl)))), ((ma 11), .inl (cJ, 41, .inr (.inl (aL rw)))), ((ma 12), .inl (cA, 2, .inl (aR rt)))] := hD
        refine lv_aload_n hx hb d_Mod_at_47 rfl (lv_at hl 0 rfl) ?_
        refine va_get (D := (dC, dI)) (ci := 5) (v := .int (iZ (0))) (C := "OrderTwoCasesModel") (T := F_Mod) (N := 15) hx hb hts la_Mod hown hK hP 0 rfl rfl 0 (by decide) (hts _ k_464) (fun _ h9 => h9) rfl d_Mod_at_48 ?_
        refine z_if_le (tgt := 56) hx hb d_Mod_at_51 (by decide) (by omega) (fun c_51 => ?_) (fun c_51 => ?_)
        · refine lv_iload_n hx hb d_Mod_at_56 rfl (lv_at hl 1 rfl) ?_
          refine lv_iconst (v := iZ (2)) hx hb d_Mod_at_57 rfl ?_
          refine z_icmp_ge (tgt := 81) hx hb d_Mod_at_58 (by decide) (by omega) (by omega) (fun c_58 => ?_) (fun c_58 => ?_)
          · exfalso; omega
          · refine lv_iload_n hx hb d_Mod_at_61 rfl (lv_at hl 1 rfl) ?_
            refine z_if_ne (tgt := 74) hx hb d_Mod_at_62 (by decide) (by omega) (fun c_62 => ?_) (fun c_62 => ?_)
            · exfalso; omega
            · refine lv_aload_n hx hb d_Mod_at_65 rfl (lv_at hl 0 rfl) ?_
              refine va_get (D := (dC, dI)) (ci := 5) (v := .ref ((ma 1))) (C := "OrderTwoCasesModel") (T := F_Mod) (N := 15) hx hb hts la_Mod hown hK hP 0 rfl rfl 1 (by decide) (hts _ k_465) (fun _ h9 => h9) rfl d_Mod_at_66 ?_
              refine lv_iload_n hx hb d_Mod_at_69 rfl (lv_at hl 2 rfl) ?_
              refine z_iald hx hb hK hP 1 0 rfl rfl (by omega) (by omega) (by omega) d_Mod_at_70 ?_
              refine lv_goto (tgt := 80) hx hb d_Mod_at_71 (by decide) ?_
              exact w_iret (post := fun (r9 : Int32) (u : MS) => r9 = iZ (f k) ∧ u.2.2.2.2.2.2.2.2.2.2.1 = 0) (wn := fun (u : MS) => mW cA cJ ma f g u) hx hb hr hlocks (rs, ww, mo, dg, pl, sl, lf, tl, rw, rt, 0, td, mn) ⟨rfl, rfl⟩ hP hD hS d_Mod_at_80
        · exact absurd (show (0 : Int) ≤ 0 by decide) c_51
      · exact absurd c_36 (by decide)
  · exact absurd c_10 (by decide)

set_option maxHeartbeats 4000000 in
set_option maxRecDepth 100000 in
/-- at(1, k) -/
theorem c_mat1 (l : Launch) (dC : Nat → ClassId) (dI : Nat → Nat → Nat) (cA cJ : ClassId) (sz : Nat) (ma : Nat → Nat) (f g rs ww mo dg pl sl lf tl rw rt : Int → Int) (cd td mn : Int) (hf : RoW 3 f) (hg : RoW 5 g) (k : Int) (hk : 0 ≤ k ∧ k ≤ 4) : Met l y_Mod_at w_Mod_at ({ frames := 2, cells := 0, slots := 0, locals := 55 }) (va_Pc [.ref ((ma 0)), .int (iZ (1)), .int (iZ (k))] (wP (dC, dI) vC [(cA, .int), (cJ, .long)] (mW cA cJ ma f g (rs, ww, mo, dg, pl, sl, lf, tl, rw, rt, cd, td, mn)) sz)) (va_Qi (fun (r9 : Int32) (u : MS) => r9 = iZ (g k) ∧ u.2.2.2.2.2.2.2.2.2.2.1 = 0) (fun (u : MS) t => wB (dC, dI) vC (va_A (mW cA cJ ma f g (rs, ww, mo, dg, pl, sl, lf, tl, rw, rt, cd, td, mn)) sz) (mW cA cJ ma f g u) t) (va_A (mW cA cJ ma f g (rs, ww, mo, dg, pl, sl, lf, tl, rw, rt, cd, td, mn)) sz)) 0 0 (va_A (mW cA cJ ma f g (rs, ww, mo, dg, pl, sl, lf, tl, rw, rt, cd, td, mn)) sz) := by
  refine Met.ofW (cc := b_Mod_at) (maxL := 3) (ret := (Option.some Jvm.ClassFile.FieldType.int)) (by decide) rfl ?_
  intro p e s m args below meth c s₁ B hml hv
  obtain ⟨rfl, hsz, hP, hK, hD0⟩ := hv
  have hx := B.exec
  have hb := B.bytes
  have hr := B.returns
  have hts : ∀ w ∈ tT, w.before _ s = true := fun w h => atoms_spec (ws := w_Mod_at) B.pre w (List.mem_cons_of_mem _ h)
  have hown : s.vm.findClass "OrderTwoCasesModel" = some m.cls := findClass_of_methodNamed B.named
  have hlocks := B.notSynchronized
  subst hsz
  have hD := hD0.self (sz := s.heap.size)
  generalize hAe : va_A (mW cA cJ ma f g (rs, ww, mo, dg, pl, sl, lf, tl, rw, rt, cd, td, mn)) s.heap.size = A at hD ⊢
  have hA : ∀ q : Nat, s.heap.size ≤ q → A q := fun q h => by rw [← hAe]; exact Or.inr h
  have hS : va_S A s.heap s.heap [] := va_S.rf
  have hl := lv_entry ([.ref ((ma 0)), .int (iZ (1)), .int (iZ (k))]) (n := 3) (Nat.le_of_ble_eq_true rfl)
  rw [lg_entry_eq]
  generalize (lg_sl ([.ref ((ma 0)), .int (iZ (1)), .int (iZ (k))]) ++ List.replicate (3 - (lg_sl ([.ref ((ma 0)), .int (iZ (1)), .int (iZ (k))])).length) Slot.unset).toArray = ls at hl ⊢
  have hl : lv_has ls 3 [(0, .ref ((ma 0))), (1, .int (iZ (1))), (2, .int (iZ (k)))] := hl
  have hP : va_P (dC, dI) vC [((ma 0), .inr (5, [.int (iZ (cd)), .ref ((ma 1)), .ref ((ma 2)), .ref ((ma 3)), .ref ((ma 4)), .ref ((ma 5)), .int (iZ (td)), .int (iZ (mn)), .ref ((ma 6)), .ref ((ma 7)), .ref ((ma 8)), .ref ((ma 9)), .ref ((ma 10)), .ref ((ma 11)), .ref ((ma 12))])), ((ma 1), .inl (cA, 3, .inl (aR f))), ((ma 2), .inl (cA, 5, .inl (aR g))), ((ma 3), .inl (cJ, 5, .inr (.inl (aL rs)))), ((ma 4), .inl (cJ, 3, .inr (.inl (aL ww)))), ((ma 5), .inl (cJ, 5, .inr (.inl (aL mo)))), ((ma 6), .inl (cA, 2, .inl (aR dg))), ((ma 7), .inl (cJ, 26, .inr (.inl (aL pl)))), ((ma 8), .inl (cJ, 6, .inr (.inl (aL sl)))), ((ma 9), .inl (cJ, 20, .inr (.inl (aL lf)))), ((ma 10), .inl (cJ, 13, .inr (.inl (aL tl)))), ((ma 11), .inl (cJ, 41, .inr (.inl (aL rw)))), ((ma 12), .inl (cA, 2, .inl (aR rt)))] s.heap := hP
  have hD : va_D A [((ma 0), .inr (5, [.int (iZ (cd)), .ref ((ma 1)), .ref ((ma 2)), .ref ((ma 3)), .ref ((ma 4)), .ref ((ma 5)), .int (iZ (td)), .int (iZ (mn)), .ref ((ma 6)), .ref ((ma 7)), .ref ((ma 8)), .ref ((ma 9)), .ref ((ma 10)), .ref ((ma 11)), .ref ((ma 12))])), ((ma 1), .inl (cA, 3, .inl (aR f))), ((ma 2), .inl (cA, 5, .inl (aR g))), ((ma 3), .inl (cJ, 5, .inr (.inl (aL rs)))), ((ma 4), .inl (cJ, 3, .inr (.inl (aL ww)))), ((ma 5), .inl (cJ, 5, .inr (.inl (aL mo)))), ((ma 6), .inl (cA, 2, .inl (aR dg))), ((ma 7), .inl (cJ, 26, .inr (.inl (aL pl)))), ((ma 8), .inl (cJ, 6, .inr (.inl (aL sl)))), ((ma 9), .inl (cJ, 20, .inr (.inl (aL lf)))), ((ma 10), .inl (cJ, 13, .inr (.inl (aL tl)))), ((ma 11), .inl (cJ, 41, .inr (.inl (aL rw)))), ((ma 12), .inl (cA, 2, .inl (aR rt)))] := hD
  refine lv_aload_n hx hb d_Mod_at_0 rfl (lv_at hl 0 rfl) ?_
  refine lv_iload_n hx hb d_Mod_at_1 rfl (lv_at hl 1 rfl) ?_
  refine z_i2l hx hb d_Mod_at_2 (by omega) ?_
  refine lv_lconst (v := lZ (0)) hx hb d_Mod_at_3 (by decide +kernel) ?_
  refine lv_ldc2 (v := lZ (2)) hx hb hown (show (Jvm.Cond.constantLong "OrderTwoCasesModel" 57 (lZ (2))).before _ s = true from hts _ k_522) d_Mod_at_4 ?_
  refine w_rdi (va_runS (As := [.long (lZ (1)), .long (lZ (0)), .long (lZ (2))]) (rest := [.ref ((ma 0))]) ⟨hx, hb, hml, hown, hts⟩ (c_min l 1 0 2 (by omega) (by omega) (by omega)) (va_cwS 3 hts g_Mod_53 rfl rfl rfl (by decide +kernel) ⟨Nat.le_of_ble_eq_true rfl, Nat.le_of_ble_eq_true rfl⟩) preEq rfl rfl hl.1 rfl (lv_room (Nat.le_of_ble_eq_true rfl)) d_Mod_at_7 ⟨Nat.le_of_ble_eq_true rfl, Nat.le_of_ble_eq_true rfl⟩) ?_
  rw [if_pos (show (0 : Int) ≤ 1 ∧ (1 : Int) ≤ 2 by omega)]
  refine z_if_ne (tgt := 17) hx hb d_Mod_at_10 (by decide) (by decide) (fun c_10 => ?_) (fun c_10 => ?_)
  · refine lv_iload_n hx hb d_Mod_at_17 rfl (lv_at hl 2 rfl) ?_
    refine z_i2l hx hb d_Mod_at_18 (by omega) ?_
    refine lv_lconst (v := lZ (0)) hx hb d_Mod_at_19 (by decide +kernel) ?_
    refine lv_iload_n hx hb d_Mod_at_20 rfl (lv_at hl 1 rfl) ?_
    refine z_if_ne (tgt := 30) hx hb d_Mod_at_21 (by decide) (by omega) (fun c_21 => ?_) (fun c_21 => ?_)
    · refine lv_ldc2 (v := lZ (4)) hx hb hown (show (Jvm.Cond.constantLong "OrderTwoCasesModel" 59 (lZ (4))).before _ s = true from hts _ k_523) d_Mod_at_30 ?_
      refine w_rdi (va_runS (As := [.long (lZ (k)), .long (lZ (0)), .long (lZ (4))]) (rest := [.ref ((ma 0))]) ⟨hx, hb, hml, hown, hts⟩ (c_min l k 0 4 (by omega) (by omega) (by omega)) (va_cwS 3 hts g_Mod_53 rfl rfl rfl (by decide +kernel) ⟨Nat.le_of_ble_eq_true rfl, Nat.le_of_ble_eq_true rfl⟩) preEq rfl rfl hl.1 rfl (lv_room (Nat.le_of_ble_eq_true rfl)) d_Mod_at_33 ⟨Nat.le_of_ble_eq_true rfl, Nat.le_of_ble_eq_true rfl⟩) ?_
      rw [if_pos (show 0 ≤ k ∧ k ≤ 4 by omega)]
      refine z_if_ne (tgt := 43) hx hb d_Mod_at_36 (by decide) (by decide) (fun c_36 => ?_) (fun c_36 => ?_)
      · refine lv_iconst (v := iZ (0)) hx hb d_Mod_at_43 rfl ?_
        refine va_put (D := (dC, dI)) (ci := 5) (v := .int (iZ (0))) (ty := .int) (C := "OrderTwoCasesModel") (T := F_Mod) (N := 15) hx hb hts la_Mod t_Mod tok_Mod nm_Mod hown hK hP hD hS 0 rfl rfl 0 (by decide) (hts _ k_464) (fun _ h9 => h9) rfl (by decide +kernel) rfl rfl (Nat.le_of_ble_eq_true rfl) d_Mod_at_44 (fun H locs hP hD hS => ?_)
        have hP : va_P (dC, dI) vC [((ma 0), .inr (5, [.int (iZ (0)), .ref ((ma 1)), .ref ((ma 2)), .ref ((ma 3)), .ref ((ma 4)), .ref ((ma 5)), .int (iZ (td)), .int (iZ (mn)), .ref ((ma 6)), .ref ((ma 7)), .ref ((ma 8)), .ref ((ma 9)), .ref ((ma 10)), .ref ((ma 11)), .ref ((ma 12))])), ((ma 1), .inl (cA, 3, .inl (aR f))), ((ma 2), .inl (cA, 5, .inl (aR g))), ((ma 3), .inl (cJ, 5, .inr (.inl (aL rs)))), ((ma 4), .inl (cJ, 3, .inr (.inl (aL ww)))), ((ma 5), .inl (cJ, 5, .inr (.inl (aL mo)))), ((ma 6), .inl (cA, 2, .inl (aR dg))), ((ma 7), .inl (cJ, 26, .inr (.inl (aL pl)))), ((ma 8), .inl (cJ, 6, .inr (.inl (aL sl)))), ((ma 9), .inl (cJ, 20, .inr (.inl (aL lf)))), ((ma 10), .inl (cJ, 13, .inr (.inl (aL tl)))), ((ma 11), .inl (cJ, 41, .inr (.inl (aL rw)))), ((ma 12), .inl (cA, 2, .inl (aR rt)))] H := hP
        have hD : va_D A [((ma 0), .inr (5, [.int (iZ (0)), .ref ((ma 1)), .ref ((ma 2)), .ref ((ma 3)), .ref ((ma 4)), .ref ((ma 5)), .int (iZ (td)), .int (iZ (mn)), .ref ((ma 6)), .ref ((ma 7)), .ref ((ma 8)), .ref ((ma 9)), .ref ((ma 10)), .ref ((ma 11)), .ref ((ma 12))])), ((ma 1), .inl (cA, 3, .inl (aR f))), ((ma 2), .inl (cA, 5, .inl (aR g))), ((ma 3), .inl (cJ, 5, .inr (.inl (aL rs)))), ((ma 4), .inl (cJ, 3, .inr (.inl (aL ww)))), ((ma 5), .inl (cJ, 5, .inr (.inl (aL mo)))), ((ma 6), .inl (cA, 2, .inl (aR dg))), ((ma 7), .inl (cJ, 26, .inr (.inl (aL pl)))), ((ma 8), .inl (cJ, 6, .inr (.inl (aL sl)))), ((ma 9), .inl (cJ, 20, .inr (.inl (aL lf)))), ((ma 10), .inl (cJ, 13, .inr (.inl (aL tl)))), ((ma 11), .inl (cJ, 41, .inr (.inl (aL rw)))), ((ma 12), .inl (cA, 2, .inl (aR rt)))] := hD
        refine lv_aload_n hx hb d_Mod_at_47 rfl (lv_at hl 0 rfl) ?_
        refine va_get (D := (dC, dI)) (ci := 5) (v := .int (iZ (0))) (C := "OrderTwoCasesModel") (T := F_Mod) (N := 15) hx hb hts la_Mod hown hK hP 0 rfl rfl 0 (by decide) (hts _ k_464) (fun _ h9 => h9) rfl d_Mod_at_48 ?_
        refine z_if_le (tgt := 56) hx hb d_Mod_at_51 (by decide) (by omega) (fun c_51 => ?_) (fun c_51 => ?_)
        · refine lv_iload_n hx hb d_Mod_at_56 rfl (lv_at hl 1 rfl) ?_
          refine lv_iconst (v := iZ (2)) hx hb d_Mod_at_57 rfl ?_
          refine z_icmp_ge (tgt := 81) hx hb d_Mod_at_58 (by decide) (by omega) (by omega) (fun c_58 => ?_) (fun c_58 => ?_)
          · exfalso; omega
          · refine lv_iload_n hx hb d_Mod_at_61 rfl (lv_at hl 1 rfl) ?_
            refine z_if_ne (tgt := 74) hx hb d_Mod_at_62 (by decide) (by omega) (fun c_62 => ?_) (fun c_62 => ?_)
            · refine lv_aload_n hx hb d_Mod_at_74 rfl (lv_at hl 0 rfl) ?_
              refine va_get (D := (dC, dI)) (ci := 5) (v := .ref ((ma 2))) (C := "OrderTwoCasesModel") (T := F_Mod) (N := 15) hx hb hts la_Mod hown hK hP 0 rfl rfl 2 (by decide) (hts _ k_466) (fun _ h9 => h9) rfl d_Mod_at_75 ?_
              refine lv_iload_n hx hb d_Mod_at_78 rfl (lv_at hl 2 rfl) ?_
              refine z_iald hx hb hK hP 2 0 rfl rfl (by omega) (by omega) (by omega) d_Mod_at_79 ?_
              exact w_iret (post := fun (r9 : Int32) (u : MS) => r9 = iZ (g k) ∧ u.2.2.2.2.2.2.2.2.2.2.1 = 0) (wn := fun (u : MS) => mW cA cJ ma f g u) hx hb hr hlocks (rs, ww, mo, dg, pl, sl, lf, tl, rw, rt, 0, td, mn) ⟨rfl, rfl⟩ hP hD hS d_Mod_at_80
            · exfalso; omega
        · exact absurd (show (0 : Int) ≤ 0 by decide) c_51
      · exact absurd c_36 (by decide)
    · exfalso; omega
  · exact absurd c_10 (by decide)

set_option maxHeartbeats 4000000 in
set_option maxRecDepth 100000 in
/-- at(2, k) -/
theorem c_mat2 (l : Launch) (dC : Nat → ClassId) (dI : Nat → Nat → Nat) (cA cJ : ClassId) (sz : Nat) (ma : Nat → Nat) (f g rs ww mo dg pl sl lf tl rw rt : Int → Int) (cd td mn : Int) (hf : RoW 3 f) (hg : RoW 5 g) (k : Int) (hk : 0 ≤ k ∧ k ≤ 4) : Met l y_Mod_at w_Mod_at ({ frames := 2, cells := 0, slots := 0, locals := 55 }) (va_Pc [.ref ((ma 0)), .int (iZ (2)), .int (iZ (k))] (wP (dC, dI) vC [(cA, .int), (cJ, .long)] (mW cA cJ ma f g (rs, ww, mo, dg, pl, sl, lf, tl, rw, rt, cd, td, mn)) sz)) (va_Qi (fun (r9 : Int32) (u : MS) => r9 = iZ (rez f g k) ∧ u.2.2.2.2.2.2.2.2.2.2.1 = 0) (fun (u : MS) t => wB (dC, dI) vC (va_A (mW cA cJ ma f g (rs, ww, mo, dg, pl, sl, lf, tl, rw, rt, cd, td, mn)) sz) (mW cA cJ ma f g u) t) (va_A (mW cA cJ ma f g (rs, ww, mo, dg, pl, sl, lf, tl, rw, rt, cd, td, mn)) sz)) 0 0 (va_A (mW cA cJ ma f g (rs, ww, mo, dg, pl, sl, lf, tl, rw, rt, cd, td, mn)) sz) := by
  refine Met.ofW (cc := b_Mod_at) (maxL := 3) (ret := (Option.some Jvm.ClassFile.FieldType.int)) (by decide) rfl ?_
  intro p e s m args below meth c s₁ B hml hv
  obtain ⟨rfl, hsz, hP, hK, hD0⟩ := hv
  have hx := B.exec
  have hb := B.bytes
  have hr := B.returns
  have hts : ∀ w ∈ tT, w.before _ s = true := fun w h => atoms_spec (ws := w_Mod_at) B.pre w (List.mem_cons_of_mem _ h)
  have hown : s.vm.findClass "OrderTwoCasesModel" = some m.cls := findClass_of_methodNamed B.named
  have hlocks := B.notSynchronized
  subst hsz
  have hD := hD0.self (sz := s.heap.size)
  generalize hAe : va_A (mW cA cJ ma f g (rs, ww, mo, dg, pl, sl, lf, tl, rw, rt, cd, td, mn)) s.heap.size = A at hD ⊢
  have hA : ∀ q : Nat, s.heap.size ≤ q → A q := fun q h => by rw [← hAe]; exact Or.inr h
  have hS : va_S A s.heap s.heap [] := va_S.rf
  have hl := lv_entry ([.ref ((ma 0)), .int (iZ (2)), .int (iZ (k))]) (n := 3) (Nat.le_of_ble_eq_true rfl)
  rw [lg_entry_eq]
  generalize (lg_sl ([.ref ((ma 0)), .int (iZ (2)), .int (iZ (k))]) ++ List.replicate (3 - (lg_sl ([.ref ((ma 0)), .int (iZ (2)), .int (iZ (k))])).length) Slot.unset).toArray = ls at hl ⊢
  have hl : lv_has ls 3 [(0, .ref ((ma 0))), (1, .int (iZ (2))), (2, .int (iZ (k)))] := hl
  have hP : va_P (dC, dI) vC [((ma 0), .inr (5, [.int (iZ (cd)), .ref ((ma 1)), .ref ((ma 2)), .ref ((ma 3)), .ref ((ma 4)), .ref ((ma 5)), .int (iZ (td)), .int (iZ (mn)), .ref ((ma 6)), .ref ((ma 7)), .ref ((ma 8)), .ref ((ma 9)), .ref ((ma 10)), .ref ((ma 11)), .ref ((ma 12))])), ((ma 1), .inl (cA, 3, .inl (aR f))), ((ma 2), .inl (cA, 5, .inl (aR g))), ((ma 3), .inl (cJ, 5, .inr (.inl (aL rs)))), ((ma 4), .inl (cJ, 3, .inr (.inl (aL ww)))), ((ma 5), .inl (cJ, 5, .inr (.inl (aL mo)))), ((ma 6), .inl (cA, 2, .inl (aR dg))), ((ma 7), .inl (cJ, 26, .inr (.inl (aL pl)))), ((ma 8), .inl (cJ, 6, .inr (.inl (aL sl)))), ((ma 9), .inl (cJ, 20, .inr (.inl (aL lf)))), ((ma 10), .inl (cJ, 13, .inr (.inl (aL tl)))), ((ma 11), .inl (cJ, 41, .inr (.inl (aL rw)))), ((ma 12), .inl (cA, 2, .inl (aR rt)))] s.heap := hP
  have hD : va_D A [((ma 0), .inr (5, [.int (iZ (cd)), .ref ((ma 1)), .ref ((ma 2)), .ref ((ma 3)), .ref ((ma 4)), .ref ((ma 5)), .int (iZ (td)), .int (iZ (mn)), .ref ((ma 6)), .ref ((ma 7)), .ref ((ma 8)), .ref ((ma 9)), .ref ((ma 10)), .ref ((ma 11)), .ref ((ma 12))])), ((ma 1), .inl (cA, 3, .inl (aR f))), ((ma 2), .inl (cA, 5, .inl (aR g))), ((ma 3), .inl (cJ, 5, .inr (.inl (aL rs)))), ((ma 4), .inl (cJ, 3, .inr (.inl (aL ww)))), ((ma 5), .inl (cJ, 5, .inr (.inl (aL mo)))), ((ma 6), .inl (cA, 2, .inl (aR dg))), ((ma 7), .inl (cJ, 26, .inr (.inl (aL pl)))), ((ma 8), .inl (cJ, 6, .inr (.inl (aL sl)))), ((ma 9), .inl (cJ, 20, .inr (.inl (aL lf)))), ((ma 10), .inl (cJ, 13, .inr (.inl (aL tl)))), ((ma 11), .inl (cJ, 41, .inr (.inl (aL rw)))), ((ma 12), .inl (cA, 2, .inl (aR rt)))] := hD
  refine lv_aload_n hx hb d_Mod_at_0 rfl (lv_at hl 0 rfl) ?_
  refine lv_iload_n hx hb d_Mod_at_1 rfl (lv_at hl 1 rfl) ?_
  refine z_i2l hx hb d_Mod_at_2 (by omega) ?_
  refine lv_lconst (v := lZ (0)) hx hb d_Mod_at_3 (by decide +kernel) ?_
  refine lv_ldc2 (v := lZ (2)) hx hb hown (show (Jvm.Cond.constantLong "OrderTwoCasesModel" 57 (lZ (2))).before _ s = true from hts _ k_522) d_Mod_at_4 ?_
  refine w_rdi (va_runS (As := [.long (lZ (2)), .long (lZ (0)), .long (lZ (2))]) (rest := [.ref ((ma 0))]) ⟨hx, hb, hml, hown, hts⟩ (c_min l 2 0 2 (by omega) (by omega) (by omega)) (va_cwS 3 hts g_Mod_53 rfl rfl rfl (by decide +kernel) ⟨Nat.le_of_ble_eq_true rfl, Nat.le_of_ble_eq_true rfl⟩) preEq rfl rfl hl.1 rfl (lv_room (Nat.le_of_ble_eq_true rfl)) d_Mod_at_7 ⟨Nat.le_of_ble_eq_true rfl, Nat.le_of_ble_eq_true rfl⟩) ?_
  rw [if_pos (show (0 : Int) ≤ 2 ∧ (2 : Int) ≤ 2 by omega)]
  refine z_if_ne (tgt := 17) hx hb d_Mod_at_10 (by decide) (by decide) (fun c_10 => ?_) (fun c_10 => ?_)
  · refine lv_iload_n hx hb d_Mod_at_17 rfl (lv_at hl 2 rfl) ?_
    refine z_i2l hx hb d_Mod_at_18 (by omega) ?_
    refine lv_lconst (v := lZ (0)) hx hb d_Mod_at_19 (by decide +kernel) ?_
    refine lv_iload_n hx hb d_Mod_at_20 rfl (lv_at hl 1 rfl) ?_
    refine z_if_ne (tgt := 30) hx hb d_Mod_at_21 (by decide) (by omega) (fun c_21 => ?_) (fun c_21 => ?_)
    · refine lv_ldc2 (v := lZ (4)) hx hb hown (show (Jvm.Cond.constantLong "OrderTwoCasesModel" 59 (lZ (4))).before _ s = true from hts _ k_523) d_Mod_at_30 ?_
      refine w_rdi (va_runS (As := [.long (lZ (k)), .long (lZ (0)), .long (lZ (4))]) (rest := [.ref ((ma 0))]) ⟨hx, hb, hml, hown, hts⟩ (c_min l k 0 4 (by omega) (by omega) (by omega)) (va_cwS 3 hts g_Mod_53 rfl rfl rfl (by decide +kernel) ⟨Nat.le_of_ble_eq_true rfl, Nat.le_of_ble_eq_true rfl⟩) preEq rfl rfl hl.1 rfl (lv_room (Nat.le_of_ble_eq_true rfl)) d_Mod_at_33 ⟨Nat.le_of_ble_eq_true rfl, Nat.le_of_ble_eq_true rfl⟩) ?_
      rw [if_pos (show 0 ≤ k ∧ k ≤ 4 by omega)]
      refine z_if_ne (tgt := 43) hx hb d_Mod_at_36 (by decide) (by decide) (fun c_36 => ?_) (fun c_36 => ?_)
      · refine lv_iconst (v := iZ (0)) hx hb d_Mod_at_43 rfl ?_
        refine va_put (D := (dC, dI)) (ci := 5) (v := .int (iZ (0))) (ty := .int) (C := "OrderTwoCasesModel") (T := F_Mod) (N := 15) hx hb hts la_Mod t_Mod tok_Mod nm_Mod hown hK hP hD hS 0 rfl rfl 0 (by decide) (hts _ k_464) (fun _ h9 => h9) rfl (by decide +kernel) rfl rfl (Nat.le_of_ble_eq_true rfl) d_Mod_at_44 (fun H locs hP hD hS => ?_)
        have hP : va_P (dC, dI) vC [((ma 0), .inr (5, [.int (iZ (0)), .ref ((ma 1)), .ref ((ma 2)), .ref ((ma 3)), .ref ((ma 4)), .ref ((ma 5)), .int (iZ (td)), .int (iZ (mn)), .ref ((ma 6)), .ref ((ma 7)), .ref ((ma 8)), .ref ((ma 9)), .ref ((ma 10)), .ref ((ma 11)), .ref ((ma 12))])), ((ma 1), .inl (cA, 3, .inl (aR f))), ((ma 2), .inl (cA, 5, .inl (aR g))), ((ma 3), .inl (cJ, 5, .inr (.inl (aL rs)))), ((ma 4), .inl (cJ, 3, .inr (.inl (aL ww)))), ((ma 5), .inl (cJ, 5, .inr (.inl (aL mo)))), ((ma 6), .inl (cA, 2, .inl (aR dg))), ((ma 7), .inl (cJ, 26, .inr (.inl (aL pl)))), ((ma 8), .inl (cJ, 6, .inr (.inl (aL sl)))), ((ma 9), .inl (cJ, 20, .inr (.inl (aL lf)))), ((ma 10), .inl (cJ, 13, .inr (.inl (aL tl)))), ((ma 11), .inl (cJ, 41, .inr (.inl (aL rw)))), ((ma 12), .inl (cA, 2, .inl (aR rt)))] H := hP
        have hD : va_D A [((ma 0), .inr (5, [.int (iZ (0)), .ref ((ma 1)), .ref ((ma 2)), .ref ((ma 3)), .ref ((ma 4)), .ref ((ma 5)), .int (iZ (td)), .int (iZ (mn)), .ref ((ma 6)), .ref ((ma 7)), .ref ((ma 8)), .ref ((ma 9)), .ref ((ma 10)), .ref ((ma 11)), .ref ((ma 12))])), ((ma 1), .inl (cA, 3, .inl (aR f))), ((ma 2), .inl (cA, 5, .inl (aR g))), ((ma 3), .inl (cJ, 5, .inr (.inl (aL rs)))), ((ma 4), .inl (cJ, 3, .inr (.inl (aL ww)))), ((ma 5), .inl (cJ, 5, .inr (.inl (aL mo)))), ((ma 6), .inl (cA, 2, .inl (aR dg))), ((ma 7), .inl (cJ, 26, .inr (.inl (aL pl)))), ((ma 8), .inl (cJ, 6, .inr (.inl (aL sl)))), ((ma 9), .inl (cJ, 20, .inr (.inl (aL lf)))), ((ma 10), .inl (cJ, 13, .inr (.inl (aL tl)))), ((ma 11), .inl (cJ, 41, .inr (.inl (aL rw)))), ((ma 12), .inl (cA, 2, .inl (aR rt)))] := hD
        refine lv_aload_n hx hb d_Mod_at_47 rfl (lv_at hl 0 rfl) ?_
        refine va_get (D := (dC, dI)) (ci := 5) (v := .int (iZ (0))) (C := "OrderTwoCasesModel") (T := F_Mod) (N := 15) hx hb hts la_Mod hown hK hP 0 rfl rfl 0 (by decide) (hts _ k_464) (fun _ h9 => h9) rfl d_Mod_at_48 ?_
        refine z_if_le (tgt := 56) hx hb d_Mod_at_51 (by decide) (by omega) (fun c_51 => ?_) (fun c_51 => ?_)
        · refine lv_iload_n hx hb d_Mod_at_56 rfl (lv_at hl 1 rfl) ?_
          refine lv_iconst (v := iZ (2)) hx hb d_Mod_at_57 rfl ?_
          refine z_icmp_ge (tgt := 81) hx hb d_Mod_at_58 (by decide) (by omega) (by omega) (fun c_58 => ?_) (fun c_58 => ?_)
          · refine lv_aload_n hx hb d_Mod_at_81 rfl (lv_at hl 0 rfl) ?_
            refine w_callv (wn := fun (u : MS) => [((ma 0), .inr (5, [.int (iZ (u.2.2.2.2.2.2.2.2.2.2.1)), .ref ((ma 1)), .ref ((ma 2)), .ref ((ma 3)), .ref ((ma 4)), .ref ((ma 5)), .int (iZ (u.2.2.2.2.2.2.2.2.2.2.2.1)), .int (iZ (u.2.2.2.2.2.2.2.2.2.2.2.2)), .ref ((ma 6)), .ref ((ma 7)), .ref ((ma 8)), .ref ((ma 9)), .ref ((ma 10)), .ref ((ma 11)), .ref ((ma 12))])), ((ma 1), .inl (cA, 3, .inl (aR f))), ((ma 2), .inl (cA, 5, .inl (aR g))), ((ma 3), .inl (cJ, 5, .inr (.inl (aL u.1)))), ((ma 4), .inl (cJ, 3, .inr (.inl (aL u.2.1)))), ((ma 5), .inl (cJ, 5, .inr (.inl (aL u.2.2.1)))), ((ma 6), .inl (cA, 2, .inl (aR u.2.2.2.1))), ((ma 7), .inl (cJ, 26, .inr (.inl (aL u.2.2.2.2.1)))), ((ma 8), .inl (cJ, 6, .inr (.inl (aL u.2.2.2.2.2.1)))), ((ma 9), .inl (cJ, 20, .inr (.inl (aL u.2.2.2.2.2.2.1)))), ((ma 10), .inl (cJ, 13, .inr (.inl (aL u.2.2.2.2.2.2.2.1)))), ((ma 11), .inl (cJ, 41, .inr (.inl (aL u.2.2.2.2.2.2.2.2.1)))), ((ma 12), .inl (cA, 2, .inl (aR u.2.2.2.2.2.2.2.2.2.1)))]) (wf := fun (u : MS) => [((ma 0), .inr (5, [.int (iZ (u.2.2.2.2.2.2.2.2.2.2.1)), .ref ((ma 1)), .ref ((ma 2)), .ref ((ma 3)), .ref ((ma 4)), .ref ((ma 5)), .int (iZ (u.2.2.2.2.2.2.2.2.2.2.2.1)), .int (iZ (u.2.2.2.2.2.2.2.2.2.2.2.2)), .ref ((ma 6)), .ref ((ma 7)), .ref ((ma 8)), .ref ((ma 9)), .ref ((ma 10)), .ref ((ma 11)), .ref ((ma 12))])), ((ma 1), .inl (cA, 3, .inl (aR f))), ((ma 2), .inl (cA, 5, .inl (aR g))), ((ma 3), .inl (cJ, 5, .inr (.inl (aL u.1)))), ((ma 4), .inl (cJ, 3, .inr (.inl (aL u.2.1)))), ((ma 5), .inl (cJ, 5, .inr (.inl (aL u.2.2.1)))), ((ma 6), .inl (cA, 2, .inl (aR u.2.2.2.1))), ((ma 7), .inl (cJ, 26, .inr (.inl (aL u.2.2.2.2.1)))), ((ma 8), .inl (cJ, 6, .inr (.inl (aL u.2.2.2.2.2.1)))), ((ma 9), .inl (cJ, 20, .inr (.inl (aL u.2.2.2.2.2.2.1)))), ((ma 10), .inl (cJ, 13, .inr (.inl (aL u.2.2.2.2.2.2.2.1)))), ((ma 11), .inl (cJ, 41, .inr (.inl (aL u.2.2.2.2.2.2.2.2.1)))), ((ma 12), .inl (cA, 2, .inl (aR u.2.2.2.2.2.2.2.2.2.1)))]) (wr := []) (va_runV (As := []) (rest := []) ⟨hx, hb, hml, hown, hts⟩ (c_findRest l dC dI cA cJ H.size ma f g rs ww mo dg pl sl lf tl rw rt 0 td mn hf hg) (cwV 0 hts g_Mod_65 rfl rfl rfl (by decide +kernel) ⟨Nat.le_of_ble_eq_true rfl, Nat.le_of_ble_eq_true rfl⟩) (wP_preV hK hP hD [0, 1] rfl [0, 1, 2, 3, 4, 5, 6, 7, 8, 9, 10, 11, 12] (by decide) rfl rfl rfl rfl 0 rfl) rfl rfl hl.1 rfl (lv_room (Nat.le_of_ble_eq_true rfl)) d_Mod_at_82 ⟨Nat.le_of_ble_eq_true rfl, Nat.le_of_ble_eq_true rfl⟩) hP hD hS hA [0, 1, 2, 3, 4, 5, 6, 7, 8, 9, 10, 11, 12] [] [0, 1, 2, 3, 4, 5, 6, 7, 8, 9, 10, 11, 12] rfl rfl (by decide) (by decide) (by decide) (fun _ => rfl) (fun _ => rfl) (fun u H locs hw hP hD hS => ?_)
            obtain ⟨rs_0, ww_0, mo_0, dg_0, pl_0, sl_0, lf_0, tl_0, rw_0, rt_0, cd_0, td_0, mn_0⟩ := u
            obtain ⟨he_rs, he_ww, he_mo, he_dg, he_pl, he_sl, he_lf, he_tl, he_rw, he_rt, he_cd, he_td, he_mn⟩ := hw
            dsimp only at he_rs he_ww he_mo he_dg he_pl he_sl he_lf he_tl he_rw he_rt he_cd he_td he_mn
            subst he_rs he_ww he_mo he_dg he_pl he_sl he_lf he_tl he_rw he_rt he_cd he_td he_mn
            have hP : va_P (dC, dI) vC [((ma 0), .inr (5, [.int (iZ (0)), .ref ((ma 1)), .ref ((ma 2)), .ref ((ma 3)), .ref ((ma 4)), .ref ((ma 5)), .int (iZ (td)), .int (iZ (mn)), .ref ((ma 6)), .ref ((ma 7)), .ref ((ma 8)), .ref ((ma 9)), .ref ((ma 10)), .ref ((ma 11)), .ref ((ma 12))])), ((ma 1), .inl (cA, 3, .inl (aR f))), ((ma 2), .inl (cA, 5, .inl (aR g))), ((ma 3), .inl (cJ, 5, .inr (.inl (aL (rez f g))))), ((ma 4), .inl (cJ, 3, .inr (.inl (aL ww)))), ((ma 5), .inl (cJ, 5, .inr (.inl (aL mo)))), ((ma 6), .inl (cA, 2, .inl (aR dg))), ((ma 7), .inl (cJ, 26, .inr (.inl (aL pl)))), ((ma 8), .inl (cJ, 6, .inr (.inl (aL sl)))), ((ma 9), .inl (cJ, 20, .inr (.inl (aL lf)))), ((ma 10), .inl (cJ, 13, .inr (.inl (aL tl)))), ((ma 11), .inl (cJ, 41, .inr (.inl (aL rw)))), ((ma 12), .inl (cA, 2, .inl (aR rt)))] H := hP
            have hD : va_D A [((ma 0), .inr (5, [.int (iZ (0)), .ref ((ma 1)), .ref ((ma 2)), .ref ((ma 3)), .ref ((ma 4)), .ref ((ma 5)), .int (iZ (td)), .int (iZ (mn)), .ref ((ma 6)), .ref ((ma 7)), .ref ((ma 8)), .ref ((ma 9)), .ref ((ma 10)), .ref ((ma 11)), .ref ((ma 12))])), ((ma 1), .inl (cA, 3, .inl (aR f))), ((ma 2), .inl (cA, 5, .inl (aR g))), ((ma 3), .inl (cJ, 5, .inr (.inl (aL (rez f g))))), ((ma 4), .inl (cJ, 3, .inr (.inl (aL ww)))), ((ma 5), .inl (cJ, 5, .inr (.inl (aL mo)))), ((ma 6), .inl (cA, 2, .inl (aR dg))), ((ma 7), .inl (cJ, 26, .inr (.inl (aL pl)))), ((ma 8), .inl (cJ, 6, .inr (.inl (aL sl)))), ((ma 9), .inl (cJ, 20, .inr (.inl (aL lf)))), ((ma 10), .inl (cJ, 13, .inr (.inl (aL tl)))), ((ma 11), .inl (cJ, 41, .inr (.inl (aL rw)))), ((ma 12), .inl (cA, 2, .inl (aR rt)))] := hD
            refine lv_aload_n hx hb d_Mod_at_85 rfl (lv_at hl 0 rfl) ?_
            refine va_get (D := (dC, dI)) (ci := 5) (v := .ref ((ma 3))) (C := "OrderTwoCasesModel") (T := F_Mod) (N := 15) hx hb hts la_Mod hown hK hP 0 rfl rfl 3 (by decide) (hts _ k_467) (fun _ h9 => h9) rfl d_Mod_at_86 ?_
            refine lv_iload_n hx hb d_Mod_at_89 rfl (lv_at hl 2 rfl) ?_
            refine z_lald hx hb hK hP 3 1 rfl rfl (by omega) (by omega) (by omega) d_Mod_at_90 ?_
            refine z_l2i hx hb d_Mod_at_91 ?_
            exact w_iret (post := fun (r9 : Int32) (u : MS) => r9 = iZ (rez f g k) ∧ u.2.2.2.2.2.2.2.2.2.2.1 = 0) (wn := fun (u : MS) => mW cA cJ ma f g u) hx hb hr hlocks (rez f g, ww, mo, dg, pl, sl, lf, tl, rw, rt, 0, td, mn) ⟨rfl, rfl⟩ hP hD hS d_Mod_at_92
          · exfalso; omega
        · exact absurd (show (0 : Int) ≤ 0 by decide) c_51
      · exact absurd c_36 (by decide)
    · exfalso; omega
  · exact absurd c_10 (by decide)

set_option maxHeartbeats 4000000 in
set_option maxRecDepth 100000 in
/-- at, refused b1 -/
theorem c_matb1 (l : Launch) (dC : Nat → ClassId) (dI : Nat → Nat → Nat) (cA cJ : ClassId) (sz : Nat) (ma : Nat → Nat) (f g rs ww mo dg pl sl lf tl rw rt : Int → Int) (cd td mn : Int) (x k : Int) (hx9 : x < 0 ∨ 2 < x) (hx32 : -2147483648 ≤ x ∧ x < 2147483648) : Met l y_Mod_at w_Mod_at ({ frames := 2, cells := 0, slots := 0, locals := 55 }) (va_Pc [.ref ((ma 0)), .int (iZ (x)), .int (iZ (k))] (wP (dC, dI) vC [(cA, .int), (cJ, .long)] (mW cA cJ ma f g (rs, ww, mo, dg, pl, sl, lf, tl, rw, rt, cd, td, mn)) sz)) (va_Qi (fun (r9 : Int32) (u : MS) => u.2.2.2.2.2.2.2.2.2.2.1 = 1) (fun (u : MS) t => wB (dC, dI) vC (va_A (mW cA cJ ma f g (rs, ww, mo, dg, pl, sl, lf, tl, rw, rt, cd, td, mn)) sz) (mW cA cJ ma f g u) t) (va_A (mW cA cJ ma f g (rs, ww, mo, dg, pl, sl, lf, tl, rw, rt, cd, td, mn)) sz)) 0 0 (va_A (mW cA cJ ma f g (rs, ww, mo, dg, pl, sl, lf, tl, rw, rt, cd, td, mn)) sz) := by
  refine Met.ofW (cc := b_Mod_at) (maxL := 3) (ret := (Option.some Jvm.ClassFile.FieldType.int)) (by decide) rfl ?_
  intro p e s m args below meth c s₁ B hml hv
  obtain ⟨rfl, hsz, hP, hK, hD0⟩ := hv
  have hx := B.exec
  have hb := B.bytes
  have hr := B.returns
  have hts : ∀ w ∈ tT, w.before _ s = true := fun w h => atoms_spec (ws := w_Mod_at) B.pre w (List.mem_cons_of_mem _ h)
  have hown : s.vm.findClass "OrderTwoCasesModel" = some m.cls := findClass_of_methodNamed B.named
  have hlocks := B.notSynchronized
  subst hsz
  have hD := hD0.self (sz := s.heap.size)
  generalize hAe : va_A (mW cA cJ ma f g (rs, ww, mo, dg, pl, sl, lf, tl, rw, rt, cd, td, mn)) s.heap.size = A at hD ⊢
  have hA : ∀ q : Nat, s.heap.size ≤ q → A q := fun q h => by rw [← hAe]; exact Or.inr h
  have hS : va_S A s.heap s.heap [] := va_S.rf
  have hl := lv_entry ([.ref ((ma 0)), .int (iZ (x)), .int (iZ (k))]) (n := 3) (Nat.le_of_ble_eq_true rfl)
  rw [lg_entry_eq]
  generalize (lg_sl ([.ref ((ma 0)), .int (iZ (x)), .int (iZ (k))]) ++ List.replicate (3 - (lg_sl ([.ref ((ma 0)), .int (iZ (x)), .int (iZ (k))])).length) Slot.unset).toArray = ls at hl ⊢
  have hl : lv_has ls 3 [(0, .ref ((ma 0))), (1, .int (iZ (x))), (2, .int (iZ (k)))] := hl
  have hP : va_P (dC, dI) vC [((ma 0), .inr (5, [.int (iZ (cd)), .ref ((ma 1)), .ref ((ma 2)), .ref ((ma 3)), .ref ((ma 4)), .ref ((ma 5)), .int (iZ (td)), .int (iZ (mn)), .ref ((ma 6)), .ref ((ma 7)), .ref ((ma 8)), .ref ((ma 9)), .ref ((ma 10)), .ref ((ma 11)), .ref ((ma 12))])), ((ma 1), .inl (cA, 3, .inl (aR f))), ((ma 2), .inl (cA, 5, .inl (aR g))), ((ma 3), .inl (cJ, 5, .inr (.inl (aL rs)))), ((ma 4), .inl (cJ, 3, .inr (.inl (aL ww)))), ((ma 5), .inl (cJ, 5, .inr (.inl (aL mo)))), ((ma 6), .inl (cA, 2, .inl (aR dg))), ((ma 7), .inl (cJ, 26, .inr (.inl (aL pl)))), ((ma 8), .inl (cJ, 6, .inr (.inl (aL sl)))), ((ma 9), .inl (cJ, 20, .inr (.inl (aL lf)))), ((ma 10), .inl (cJ, 13, .inr (.inl (aL tl)))), ((ma 11), .inl (cJ, 41, .inr (.inl (aL rw)))), ((ma 12), .inl (cA, 2, .inl (aR rt)))] s.heap := hP
  have hD : va_D A [((ma 0), .inr (5, [.int (iZ (cd)), .ref ((ma 1)), .ref ((ma 2)), .ref ((ma 3)), .ref ((ma 4)), .ref ((ma 5)), .int (iZ (td)), .int (iZ (mn)), .ref ((ma 6)), .ref ((ma 7)), .ref ((ma 8)), .ref ((ma 9)), .ref ((ma 10)), .ref ((ma 11)), .ref ((ma 12))])), ((ma 1), .inl (cA, 3, .inl (aR f))), ((ma 2), .inl (cA, 5, .inl (aR g))), ((ma 3), .inl (cJ, 5, .inr (.inl (aL rs)))), ((ma 4), .inl (cJ, 3, .inr (.inl (aL ww)))), ((ma 5), .inl (cJ, 5, .inr (.inl (aL mo)))), ((ma 6), .inl (cA, 2, .inl (aR dg))), ((ma 7), .inl (cJ, 26, .inr (.inl (aL pl)))), ((ma 8), .inl (cJ, 6, .inr (.inl (aL sl)))), ((ma 9), .inl (cJ, 20, .inr (.inl (aL lf)))), ((ma 10), .inl (cJ, 13, .inr (.inl (aL tl)))), ((ma 11), .inl (cJ, 41, .inr (.inl (aL rw)))), ((ma 12), .inl (cA, 2, .inl (aR rt)))] := hD
  refine lv_aload_n hx hb d_Mod_at_0 rfl (lv_at hl 0 rfl) ?_
  refine lv_iload_n hx hb d_Mod_at_1 rfl (lv_at hl 1 rfl) ?_
  refine z_i2l hx hb d_Mod_at_2 (by omega) ?_
  refine lv_lconst (v := lZ (0)) hx hb d_Mod_at_3 (by decide +kernel) ?_
  refine lv_ldc2 (v := lZ (2)) hx hb hown (show (Jvm.Cond.constantLong "OrderTwoCasesModel" 57 (lZ (2))).before _ s = true from hts _ k_522) d_Mod_at_4 ?_
  refine w_rdi (va_runS (As := [.long (lZ (x)), .long (lZ (0)), .long (lZ (2))]) (rest := [.ref ((ma 0))]) ⟨hx, hb, hml, hown, hts⟩ (c_min l x 0 2 (by omega) (by omega) (by omega)) (va_cwS 3 hts g_Mod_53 rfl rfl rfl (by decide +kernel) ⟨Nat.le_of_ble_eq_true rfl, Nat.le_of_ble_eq_true rfl⟩) preEq rfl rfl hl.1 rfl (lv_room (Nat.le_of_ble_eq_true rfl)) d_Mod_at_7 ⟨Nat.le_of_ble_eq_true rfl, Nat.le_of_ble_eq_true rfl⟩) ?_
  rw [if_neg (show ¬ (0 ≤ x ∧ x ≤ 2) by omega)]
  refine z_if_ne (tgt := 17) hx hb d_Mod_at_10 (by decide) (by decide) (fun c_10 => ?_) (fun c_10 => ?_)
  · exact absurd rfl c_10
  · refine lv_iconst (v := iZ (1)) hx hb d_Mod_at_13 rfl ?_
    refine lv_goto (tgt := 44) hx hb d_Mod_at_14 (by decide) ?_
    refine va_put (D := (dC, dI)) (ci := 5) (v := .int (iZ (1))) (ty := .int) (C := "OrderTwoCasesModel") (T := F_Mod) (N := 15) hx hb hts la_Mod t_Mod tok_Mod nm_Mod hown hK hP hD hS 0 rfl rfl 0 (by decide) (hts _ k_464) (fun _ h9 => h9) rfl (by decide +kernel) rfl rfl (Nat.le_of_ble_eq_true rfl) d_Mod_at_44 (fun H locs hP hD hS => ?_)
    have hP : va_P (dC, dI) vC [((ma 0), .inr (5, [.int (iZ (1)), .ref ((ma 1)), .ref ((ma 2)), .ref ((ma 3)), .ref ((ma 4)), .ref ((ma 5)), .int (iZ (td)), .int (iZ (mn)), .ref ((ma 6)), .ref ((ma 7)), .ref ((ma 8)), .ref ((ma 9)), .ref ((ma 10)), .ref ((ma 11)), .ref ((ma 12))])), ((ma 1), .inl (cA, 3, .inl (aR f))), ((ma 2), .inl (cA, 5, .inl (aR g))), ((ma 3), .inl (cJ, 5, .inr (.inl (aL rs)))), ((ma 4), .inl (cJ, 3, .inr (.inl (aL ww)))), ((ma 5), .inl (cJ, 5, .inr (.inl (aL mo)))), ((ma 6), .inl (cA, 2, .inl (aR dg))), ((ma 7), .inl (cJ, 26, .inr (.inl (aL pl)))), ((ma 8), .inl (cJ, 6, .inr (.inl (aL sl)))), ((ma 9), .inl (cJ, 20, .inr (.inl (aL lf)))), ((ma 10), .inl (cJ, 13, .inr (.inl (aL tl)))), ((ma 11), .inl (cJ, 41, .inr (.inl (aL rw)))), ((ma 12), .inl (cA, 2, .inl (aR rt)))] H := hP
    have hD : va_D A [((ma 0), .inr (5, [.int (iZ (1)), .ref ((ma 1)), .ref ((ma 2)), .ref ((ma 3)), .ref ((ma 4)), .ref ((ma 5)), .int (iZ (td)), .int (iZ (mn)), .ref ((ma 6)), .ref ((ma 7)), .ref ((ma 8)), .ref ((ma 9)), .ref ((ma 10)), .ref ((ma 11)), .ref ((ma 12))])), ((ma 1), .inl (cA, 3, .inl (aR f))), ((ma 2), .inl (cA, 5, .inl (aR g))), ((ma 3), .inl (cJ, 5, .inr (.inl (aL rs)))), ((ma 4), .inl (cJ, 3, .inr (.inl (aL ww)))), ((ma 5), .inl (cJ, 5, .inr (.inl (aL mo)))), ((ma 6), .inl (cA, 2, .inl (aR dg))), ((ma 7), .inl (cJ, 26, .inr (.inl (aL pl)))), ((ma 8), .inl (cJ, 6, .inr (.inl (aL sl)))), ((ma 9), .inl (cJ, 20, .inr (.inl (aL lf)))), ((ma 10), .inl (cJ, 13, .inr (.inl (aL tl)))), ((ma 11), .inl (cJ, 41, .inr (.inl (aL rw)))), ((ma 12), .inl (cA, 2, .inl (aR rt)))] := hD
    refine lv_aload_n hx hb d_Mod_at_47 rfl (lv_at hl 0 rfl) ?_
    refine va_get (D := (dC, dI)) (ci := 5) (v := .int (iZ (1))) (C := "OrderTwoCasesModel") (T := F_Mod) (N := 15) hx hb hts la_Mod hown hK hP 0 rfl rfl 0 (by decide) (hts _ k_464) (fun _ h9 => h9) rfl d_Mod_at_48 ?_
    refine z_if_le (tgt := 56) hx hb d_Mod_at_51 (by decide) (by omega) (fun c_51 => ?_) (fun c_51 => ?_)
    · exact absurd c_51 (by decide)
    · refine lv_iconst (v := iZ (0)) hx hb d_Mod_at_54 rfl ?_
      exact w_iret (post := fun (_ : Int32) (u : MS) => u.2.2.2.2.2.2.2.2.2.2.1 = 1) (wn := fun (u : MS) => mW cA cJ ma f g u) hx hb hr hlocks (rs, ww, mo, dg, pl, sl, lf, tl, rw, rt, 1, td, mn) rfl hP hD hS d_Mod_at_55

set_option maxHeartbeats 4000000 in
set_option maxRecDepth 100000 in
/-- at, refused b2 -/
theorem c_matb2 (l : Launch) (dC : Nat → ClassId) (dI : Nat → Nat → Nat) (cA cJ : ClassId) (sz : Nat) (ma : Nat → Nat) (f g rs ww mo dg pl sl lf tl rw rt : Int → Int) (cd td mn : Int) (x k : Int) (hx9 : 0 ≤ x ∧ x ≤ 2) (hk9 : k < 0 ∨ (if x = 0 then 2 else 4) < k) (hk32 : -2147483648 ≤ k ∧ k < 2147483648) : Met l y_Mod_at w_Mod_at ({ frames := 2, cells := 0, slots := 0, locals := 55 }) (va_Pc [.ref ((ma 0)), .int (iZ (x)), .int (iZ (k))] (wP (dC, dI) vC [(cA, .int), (cJ, .long)] (mW cA cJ ma f g (rs, ww, mo, dg, pl, sl, lf, tl, rw, rt, cd, td, mn)) sz)) (va_Qi (fun (r9 : Int32) (u : MS) => u.2.2.2.2.2.2.2.2.2.2.1 = 2) (fun (u : MS) t => wB (dC, dI) vC (va_A (mW cA cJ ma f g (rs, ww, mo, dg, pl, sl, lf, tl, rw, rt, cd, td, mn)) sz) (mW cA cJ ma f g u) t) (va_A (mW cA cJ ma f g (rs, ww, mo, dg, pl, sl, lf, tl, rw, rt, cd, td, mn)) sz)) 0 0 (va_A (mW cA cJ ma f g (rs, ww, mo, dg, pl, sl, lf, tl, rw, rt, cd, td, mn)) sz) := by
  refine Met.ofW (cc := b_Mod_at) (maxL := 3) (ret := (Option.some Jvm.ClassFile.FieldType.int)) (by decide) rfl ?_
  intro p e s m args below meth c s₁ B hml hv
  obtain ⟨rfl, hsz, hP, hK, hD0⟩ := hv
  have hx := B.exec
  have hb := B.bytes
  have hr := B.returns
  have hts : ∀ w ∈ tT, w.before _ s = true := fun w h => atoms_spec (ws := w_Mod_at) B.pre w (List.mem_cons_of_mem _ h)
  have hown : s.vm.findClass "OrderTwoCasesModel" = some m.cls := findClass_of_methodNamed B.named
  have hlocks := B.notSynchronized
  subst hsz
  have hD := hD0.self (sz := s.heap.size)
  generalize hAe : va_A (mW cA cJ ma f g (rs, ww, mo, dg, pl, sl, lf, tl, rw, rt, cd, td, mn)) s.heap.size = A at hD ⊢
  have hA : ∀ q : Nat, s.heap.size ≤ q → A q := fun q h => by rw [← hAe]; exact Or.inr h
  have hS : va_S A s.heap s.heap [] := va_S.rf
  have hl := lv_entry ([.ref ((ma 0)), .int (iZ (x)), .int (iZ (k))]) (n := 3) (Nat.le_of_ble_eq_true rfl)
  rw [lg_entry_eq]
  generalize (lg_sl ([.ref ((ma 0)), .int (iZ (x)), .int (iZ (k))]) ++ List.replicate (3 - (lg_sl ([.ref ((ma 0)), .int (iZ (x)), .int (iZ (k))])).length) Slot.unset).toArray = ls at hl ⊢
  have hl : lv_has ls 3 [(0, .ref ((ma 0))), (1, .int (iZ (x))), (2, .int (iZ (k)))] := hl
  have hP : va_P (dC, dI) vC [((ma 0), .inr (5, [.int (iZ (cd)), .ref ((ma 1)), .ref ((ma 2)), .ref ((ma 3)), .ref ((ma 4)), .ref ((ma 5)), .int (iZ (td)), .int (iZ (mn)), .ref ((ma 6)), .ref ((ma 7)), .ref ((ma 8)), .ref ((ma 9)), .ref ((ma 10)), .ref ((ma 11)), .ref ((ma 12))])), ((ma 1), .inl (cA, 3, .inl (aR f))), ((ma 2), .inl (cA, 5, .inl (aR g))), ((ma 3), .inl (cJ, 5, .inr (.inl (aL rs)))), ((ma 4), .inl (cJ, 3, .inr (.inl (aL ww)))), ((ma 5), .inl (cJ, 5, .inr (.inl (aL mo)))), ((ma 6), .inl (cA, 2, .inl (aR dg))), ((ma 7), .inl (cJ, 26, .inr (.inl (aL pl)))), ((ma 8), .inl (cJ, 6, .inr (.inl (aL sl)))), ((ma 9), .inl (cJ, 20, .inr (.inl (aL lf)))), ((ma 10), .inl (cJ, 13, .inr (.inl (aL tl)))), ((ma 11), .inl (cJ, 41, .inr (.inl (aL rw)))), ((ma 12), .inl (cA, 2, .inl (aR rt)))] s.heap := hP
  have hD : va_D A [((ma 0), .inr (5, [.int (iZ (cd)), .ref ((ma 1)), .ref ((ma 2)), .ref ((ma 3)), .ref ((ma 4)), .ref ((ma 5)), .int (iZ (td)), .int (iZ (mn)), .ref ((ma 6)), .ref ((ma 7)), .ref ((ma 8)), .ref ((ma 9)), .ref ((ma 10)), .ref ((ma 11)), .ref ((ma 12))])), ((ma 1), .inl (cA, 3, .inl (aR f))), ((ma 2), .inl (cA, 5, .inl (aR g))), ((ma 3), .inl (cJ, 5, .inr (.inl (aL rs)))), ((ma 4), .inl (cJ, 3, .inr (.inl (aL ww)))), ((ma 5), .inl (cJ, 5, .inr (.inl (aL mo)))), ((ma 6), .inl (cA, 2, .inl (aR dg))), ((ma 7), .inl (cJ, 26, .inr (.inl (aL pl)))), ((ma 8), .inl (cJ, 6, .inr (.inl (aL sl)))), ((ma 9), .inl (cJ, 20, .inr (.inl (aL lf)))), ((ma 10), .inl (cJ, 13, .inr (.inl (aL tl)))), ((ma 11), .inl (cJ, 41, .inr (.inl (aL rw)))), ((ma 12), .inl (cA, 2, .inl (aR rt)))] := hD
  refine lv_aload_n hx hb d_Mod_at_0 rfl (lv_at hl 0 rfl) ?_
  refine lv_iload_n hx hb d_Mod_at_1 rfl (lv_at hl 1 rfl) ?_
  refine z_i2l hx hb d_Mod_at_2 (by omega) ?_
  refine lv_lconst (v := lZ (0)) hx hb d_Mod_at_3 (by decide +kernel) ?_
  refine lv_ldc2 (v := lZ (2)) hx hb hown (show (Jvm.Cond.constantLong "OrderTwoCasesModel" 57 (lZ (2))).before _ s = true from hts _ k_522) d_Mod_at_4 ?_
  refine w_rdi (va_runS (As := [.long (lZ (x)), .long (lZ (0)), .long (lZ (2))]) (rest := [.ref ((ma 0))]) ⟨hx, hb, hml, hown, hts⟩ (c_min l x 0 2 (by omega) (by omega) (by omega)) (va_cwS 3 hts g_Mod_53 rfl rfl rfl (by decide +kernel) ⟨Nat.le_of_ble_eq_true rfl, Nat.le_of_ble_eq_true rfl⟩) preEq rfl rfl hl.1 rfl (lv_room (Nat.le_of_ble_eq_true rfl)) d_Mod_at_7 ⟨Nat.le_of_ble_eq_true rfl, Nat.le_of_ble_eq_true rfl⟩) ?_
  rw [if_pos (show 0 ≤ x ∧ x ≤ 2 by omega)]
  refine z_if_ne (tgt := 17) hx hb d_Mod_at_10 (by decide) (by decide) (fun c_10 => ?_) (fun c_10 => ?_)
  · refine lv_iload_n hx hb d_Mod_at_17 rfl (lv_at hl 2 rfl) ?_
    refine z_i2l hx hb d_Mod_at_18 (by omega) ?_
    refine lv_lconst (v := lZ (0)) hx hb d_Mod_at_19 (by decide +kernel) ?_
    refine lv_iload_n hx hb d_Mod_at_20 rfl (lv_at hl 1 rfl) ?_
    refine z_if_ne (tgt := 30) hx hb d_Mod_at_21 (by decide) (by omega) (fun c_21 => ?_) (fun c_21 => ?_)
    · refine lv_ldc2 (v := lZ (4)) hx hb hown (show (Jvm.Cond.constantLong "OrderTwoCasesModel" 59 (lZ (4))).before _ s = true from hts _ k_523) d_Mod_at_30 ?_
      refine w_rdi (va_runS (As := [.long (lZ (k)), .long (lZ (0)), .long (lZ (4))]) (rest := [.ref ((ma 0))]) ⟨hx, hb, hml, hown, hts⟩ (c_min l k 0 4 (by omega) (by omega) (by omega)) (va_cwS 3 hts g_Mod_53 rfl rfl rfl (by decide +kernel) ⟨Nat.le_of_ble_eq_true rfl, Nat.le_of_ble_eq_true rfl⟩) preEq rfl rfl hl.1 rfl (lv_room (Nat.le_of_ble_eq_true rfl)) d_Mod_at_33 ⟨Nat.le_of_ble_eq_true rfl, Nat.le_of_ble_eq_true rfl⟩) ?_
      rw [if_neg (by split at hk9 <;> omega)]
      refine z_if_ne (tgt := 43) hx hb d_Mod_at_36 (by decide) (by decide) (fun c_36 => ?_) (fun c_36 => ?_)
      · exact absurd rfl c_36
      · refine lv_iconst (v := iZ (2)) hx hb d_Mod_at_39 rfl ?_
        refine lv_goto (tgt := 44) hx hb d_Mod_at_40 (by decide) ?_
        refine va_put (D := (dC, dI)) (ci := 5) (v := .int (iZ (2))) (ty := .int) (C := "OrderTwoCasesModel") (T := F_Mod) (N := 15) hx hb hts la_Mod t_Mod tok_Mod nm_Mod hown hK hP hD hS 0 rfl rfl 0 (by decide) (hts _ k_464) (fun _ h9 => h9) rfl (by decide +kernel) rfl rfl (Nat.le_of_ble_eq_true rfl) d_Mod_at_44 (fun H locs hP hD hS => ?_)
        have hP : va_P (dC, dI) vC [((ma 0), .inr (5, [.int (iZ (2)), .ref ((ma 1)), .ref ((ma 2)), .ref ((ma 3)), .ref ((ma 4)), .ref ((ma 5)), .int (iZ (td)), .int (iZ (mn)), .ref ((ma 6)), .ref ((ma 7)), .ref ((ma 8)), .ref ((ma 9)), .ref ((ma 10)), .ref ((ma 11)), .ref ((ma 12))])), ((ma 1), .inl (cA, 3, .inl (aR f))), ((ma 2), .inl (cA, 5, .inl (aR g))), ((ma 3), .inl (cJ, 5, .inr (.inl (aL rs)))), ((ma 4), .inl (cJ, 3, .inr (.inl (aL ww)))), ((ma 5), .inl (cJ, 5, .inr (.inl (aL mo)))), ((ma 6), .inl (cA, 2, .inl (aR dg))), ((ma 7), .inl (cJ, 26, .inr (.inl (aL pl)))), ((ma 8), .inl (cJ, 6, .inr (.inl (aL sl)))), ((ma 9), .inl (cJ, 20, .inr (.inl (aL lf)))), ((ma 10), .inl (cJ, 13, .inr (.inl (aL tl)))), ((ma 11), .inl (cJ, 41, .inr (.inl (aL rw)))), ((ma 12), .inl (cA, 2, .inl (aR rt)))] H := hP
        have hD : va_D A [((ma 0), .inr (5, [.int (iZ (2)), .ref ((ma 1)), .ref ((ma 2)), .ref ((ma 3)), .ref ((ma 4)), .ref ((ma 5)), .int (iZ (td)), .int (iZ (mn)), .ref ((ma 6)), .ref ((ma 7)), .ref ((ma 8)), .ref ((ma 9)), .ref ((ma 10)), .ref ((ma 11)), .ref ((ma 12))])), ((ma 1), .inl (cA, 3, .inl (aR f))), ((ma 2), .inl (cA, 5, .inl (aR g))), ((ma 3), .inl (cJ, 5, .inr (.inl (aL rs)))), ((ma 4), .inl (cJ, 3, .inr (.inl (aL ww)))), ((ma 5), .inl (cJ, 5, .inr (.inl (aL mo)))), ((ma 6), .inl (cA, 2, .inl (aR dg))), ((ma 7), .inl (cJ, 26, .inr (.inl (aL pl)))), ((ma 8), .inl (cJ, 6, .inr (.inl (aL sl)))), ((ma 9), .inl (cJ, 20, .inr (.inl (aL lf)))), ((ma 10), .inl (cJ, 13, .inr (.inl (aL tl)))), ((ma 11), .inl (cJ, 41, .inr (.inl (aL rw)))), ((ma 12), .inl (cA, 2, .inl (aR rt)))] := hD
        refine lv_aload_n hx hb d_Mod_at_47 rfl (lv_at hl 0 rfl) ?_
        refine va_get (D := (dC, dI)) (ci := 5) (v := .int (iZ (2))) (C := "OrderTwoCasesModel") (T := F_Mod) (N := 15) hx hb hts la_Mod hown hK hP 0 rfl rfl 0 (by decide) (hts _ k_464) (fun _ h9 => h9) rfl d_Mod_at_48 ?_
        refine z_if_le (tgt := 56) hx hb d_Mod_at_51 (by decide) (by omega) (fun c_51 => ?_) (fun c_51 => ?_)
        · exact absurd c_51 (by decide)
        · refine lv_iconst (v := iZ (0)) hx hb d_Mod_at_54 rfl ?_
          exact w_iret (post := fun (_ : Int32) (u : MS) => u.2.2.2.2.2.2.2.2.2.2.1 = 2) (wn := fun (u : MS) => mW cA cJ ma f g u) hx hb hr hlocks (rs, ww, mo, dg, pl, sl, lf, tl, rw, rt, 2, td, mn) rfl hP hD hS d_Mod_at_55
    · refine lv_ldc2 (v := lZ (2)) hx hb hown (show (Jvm.Cond.constantLong "OrderTwoCasesModel" 57 (lZ (2))).before _ s = true from hts _ k_522) d_Mod_at_24 ?_
      refine lv_goto (tgt := 33) hx hb d_Mod_at_27 (by decide) ?_
      refine w_rdi (va_runS (As := [.long (lZ (k)), .long (lZ (0)), .long (lZ (2))]) (rest := [.ref ((ma 0))]) ⟨hx, hb, hml, hown, hts⟩ (c_min l k 0 2 (by omega) (by omega) (by omega)) (va_cwS 3 hts g_Mod_53 rfl rfl rfl (by decide +kernel) ⟨Nat.le_of_ble_eq_true rfl, Nat.le_of_ble_eq_true rfl⟩) preEq rfl rfl hl.1 rfl (lv_room (Nat.le_of_ble_eq_true rfl)) d_Mod_at_33 ⟨Nat.le_of_ble_eq_true rfl, Nat.le_of_ble_eq_true rfl⟩) ?_
      rw [if_neg (by split at hk9 <;> omega)]
      refine z_if_ne (tgt := 43) hx hb d_Mod_at_36 (by decide) (by decide) (fun c_36 => ?_) (fun c_36 => ?_)
      · exact absurd rfl c_36
      · refine lv_iconst (v := iZ (2)) hx hb d_Mod_at_39 rfl ?_
        refine lv_goto (tgt := 44) hx hb d_Mod_at_40 (by decide) ?_
        refine va_put (D := (dC, dI)) (ci := 5) (v := .int (iZ (2))) (ty := .int) (C := "OrderTwoCasesModel") (T := F_Mod) (N := 15) hx hb hts la_Mod t_Mod tok_Mod nm_Mod hown hK hP hD hS 0 rfl rfl 0 (by decide) (hts _ k_464) (fun _ h9 => h9) rfl (by decide +kernel) rfl rfl (Nat.le_of_ble_eq_true rfl) d_Mod_at_44 (fun H locs hP hD hS => ?_)
        have hP : va_P (dC, dI) vC [((ma 0), .inr (5, [.int (iZ (2)), .ref ((ma 1)), .ref ((ma 2)), .ref ((ma 3)), .ref ((ma 4)), .ref ((ma 5)), .int (iZ (td)), .int (iZ (mn)), .ref ((ma 6)), .ref ((ma 7)), .ref ((ma 8)), .ref ((ma 9)), .ref ((ma 10)), .ref ((ma 11)), .ref ((ma 12))])), ((ma 1), .inl (cA, 3, .inl (aR f))), ((ma 2), .inl (cA, 5, .inl (aR g))), ((ma 3), .inl (cJ, 5, .inr (.inl (aL rs)))), ((ma 4), .inl (cJ, 3, .inr (.inl (aL ww)))), ((ma 5), .inl (cJ, 5, .inr (.inl (aL mo)))), ((ma 6), .inl (cA, 2, .inl (aR dg))), ((ma 7), .inl (cJ, 26, .inr (.inl (aL pl)))), ((ma 8), .inl (cJ, 6, .inr (.inl (aL sl)))), ((ma 9), .inl (cJ, 20, .inr (.inl (aL lf)))), ((ma 10), .inl (cJ, 13, .inr (.inl (aL tl)))), ((ma 11), .inl (cJ, 41, .inr (.inl (aL rw)))), ((ma 12), .inl (cA, 2, .inl (aR rt)))] H := hP
        have hD : va_D A [((ma 0), .inr (5, [.int (iZ (2)), .ref ((ma 1)), .ref ((ma 2)), .ref ((ma 3)), .ref ((ma 4)), .ref ((ma 5)), .int (iZ (td)), .int (iZ (mn)), .ref ((ma 6)), .ref ((ma 7)), .ref ((ma 8)), .ref ((ma 9)), .ref ((ma 10)), .ref ((ma 11)), .ref ((ma 12))])), ((ma 1), .inl (cA, 3, .inl (aR f))), ((ma 2), .inl (cA, 5, .inl (aR g))), ((ma 3), .inl (cJ, 5, .inr (.inl (aL rs)))), ((ma 4), .inl (cJ, 3, .inr (.inl (aL ww)))), ((ma 5), .inl (cJ, 5, .inr (.inl (aL mo)))), ((ma 6), .inl (cA, 2, .inl (aR dg))), ((ma 7), .inl (cJ, 26, .inr (.inl (aL pl)))), ((ma 8), .inl (cJ, 6, .inr (.inl (aL sl)))), ((ma 9), .inl (cJ, 20, .inr (.inl (aL lf)))), ((ma 10), .inl (cJ, 13, .inr (.inl (aL tl)))), ((ma 11), .inl (cJ, 41, .inr (.inl (aL rw)))), ((ma 12), .inl (cA, 2, .inl (aR rt)))] := hD
        refine lv_aload_n hx hb d_Mod_at_47 rfl (lv_at hl 0 rfl) ?_
        refine va_get (D := (dC, dI)) (ci := 5) (v := .int (iZ (2))) (C := "OrderTwoCasesModel") (T := F_Mod) (N := 15) hx hb hts la_Mod hown hK hP 0 rfl rfl 0 (by decide) (hts _ k_464) (fun _ h9 => h9) rfl d_Mod_at_48 ?_
        refine z_if_le (tgt := 56) hx hb d_Mod_at_51 (by decide) (by omega) (fun c_51 => ?_) (fun c_51 => ?_)
        · exact absurd c_51 (by decide)
        · refine lv_iconst (v := iZ (0)) hx hb d_Mod_at_54 rfl ?_
          exact w_iret (post := fun (_ : Int32) (u : MS) => u.2.2.2.2.2.2.2.2.2.2.1 = 2) (wn := fun (u : MS) => mW cA cJ ma f g u) hx hb hr hlocks (rs, ww, mo, dg, pl, sl, lf, tl, rw, rt, 2, td, mn) rfl hP hD hS d_Mod_at_55
  · exact absurd c_10 (by decide)
