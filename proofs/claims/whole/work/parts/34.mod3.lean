/-! REST: the reference's REST, its degree -/
theorem no_in {c : Prop} [Decidable c] (h : (if c then (1 : Int) else 0) = 0) : ¬ c := fun q => absurd ((if_pos q).symm.trans h) (by decide)
theorem yes_in {c : Prop} [Decidable c] (h : ¬ (if c then (1 : Int) else 0) = 0) : c := Decidable.byContradiction fun q => h (if_neg q)
theorem sum_in {h : Int → Int} {s j : Int} (hj : 0 ≤ j) (hs : s = md (suM h j.toNat)) : md (s + h j) = md (suM h (j + 1).toNat) := by
  rw [hs, md_addl, suM_step h hj]
theorem sum_out {h : Int → Int} {s j : Int} (hj : 0 ≤ j) (hs : s = md (suM h j.toNat)) (h0 : h j = 0) : s = md (suM h (j + 1).toNat) := by
  rw [hs, ← suM_step h hj, h0, Int.add_zero]
theorem sub_in {h : Int → Int} {c s j : Int} (hj : 0 ≤ j) (hs : s = md (c - suM h j.toNat)) : md (s - h j) = md (c - suM h (j + 1).toNat) := by
  rw [hs, md_subl, ← suM_step h hj]
  congr 1
  omega
theorem sub_out {h : Int → Int} {c s j : Int} (hj : 0 ≤ j) (hs : s = md (c - suM h j.toNat)) (h0 : h j = 0) : s = md (c - suM h (j + 1).toNat) := by
  rw [hs, ← suM_step h hj, h0, Int.add_zero]
theorem rez_at {f g : Int → Int} {i : Int} (hi : 0 ≤ i ∧ i < 5) {s t : Int} (hs : s = tmz 3 f f i) (ht : t = slz f i) : md (s * 8001 + t * 16002 - g i) = rez f g i := by
  unfold rez
  rw [cuT_in (by omega), hs, ht, Int.mul_comm _ 8001, Int.mul_comm _ 16002]
theorem rst_bd {a b c : Int} (ha : 0 ≤ a ∧ a < 32003) (hb : 0 ≤ b ∧ b < 32003) (hc : 0 ≤ c ∧ c < 32003) : -9223372036854775808 ≤ a * 8001 + b * 16002 - c ∧ a * 8001 + b * 16002 - c < 9223372036854775808 := by omega
set_option maxHeartbeats 4000000 in
set_option maxRecDepth 100000 in
/-- findRest() -/
theorem c_findRest (l : Launch) (dC : Nat → ClassId) (dI : Nat → Nat → Nat) (cA cJ : ClassId) (sz : Nat) (ma : Nat → Nat) (f g rs ww mo dg pl sl lf tl rw rt : Int → Int) (cd td mn : Int) (hf : RoW 3 f) (hg : RoW 5 g) : Met l y_Mod_findRest w_Mod_findRest ({ frames := 1, cells := 0, slots := 0, locals := 26 }) (va_Pc [.ref ((ma 0))] (wP (dC, dI) vC [(cA, .int), (cJ, .long)] (mW cA cJ ma f g (rs, ww, mo, dg, pl, sl, lf, tl, rw, rt, cd, td, mn)) sz)) (va_Qv (fun u : MS => rez f g = u.1 ∧ ww = u.2.1 ∧ mo = u.2.2.1 ∧ dg = u.2.2.2.1 ∧ pl = u.2.2.2.2.1 ∧ sl = u.2.2.2.2.2.1 ∧ lf = u.2.2.2.2.2.2.1 ∧ tl = u.2.2.2.2.2.2.2.1 ∧ rw = u.2.2.2.2.2.2.2.2.1 ∧ rt = u.2.2.2.2.2.2.2.2.2.1 ∧ cd = u.2.2.2.2.2.2.2.2.2.2.1 ∧ td = u.2.2.2.2.2.2.2.2.2.2.2.1 ∧ mn = u.2.2.2.2.2.2.2.2.2.2.2.2) (fun (u : MS) t => wB (dC, dI) vC (va_A (mW cA cJ ma f g (rs, ww, mo, dg, pl, sl, lf, tl, rw, rt, cd, td, mn)) sz) (mW cA cJ ma f g u) t) (va_A (mW cA cJ ma f g (rs, ww, mo, dg, pl, sl, lf, tl, rw, rt, cd, td, mn)) sz)) 0 0 (va_A (mW cA cJ ma f g (rs, ww, mo, dg, pl, sl, lf, tl, rw, rt, cd, td, mn)) sz) := by
  refine Met.ofW (cc := b_Mod_findRest) (maxL := 10) (ret := (Option.none : Option Jvm.ClassFile.FieldType)) (by decide) rfl ?_
  intro p e s m args below meth c s₁ B hml hv
  obtain ⟨rfl, hsz, hP, hK, hD0⟩ := hv
  have hx := B.exec
  have hb := B.bytes
  have hr := B.returns
  have hts : ∀ w ∈ tT, w.before _ s = true := fun w h => atoms_spec (ws := w_Mod_findRest) B.pre w (List.mem_cons_of_mem _ h)
  have hown : s.vm.findClass "OrderTwoCasesModel" = some m.cls := findClass_of_methodNamed B.named
  have hlocks := B.notSynchronized
  subst hsz
  have hD := hD0.self (sz := s.heap.size)
  generalize hAe : va_A (mW cA cJ ma f g (rs, ww, mo, dg, pl, sl, lf, tl, rw, rt, cd, td, mn)) s.heap.size = A at hD ⊢
  have hA : ∀ q : Nat, s.heap.size ≤ q → A q := fun q h => by rw [← hAe]; exact Or.inr h
  have hS : va_S A s.heap s.heap [] := va_S.rf
  have hl := lv_entry ([.ref ((ma 0))]) (n := 10) (Nat.le_of_ble_eq_true rfl)
  rw [lg_entry_eq]
  generalize (lg_sl ([.ref ((ma 0))]) ++ List.replicate (10 - (lg_sl ([.ref ((ma 0))])).length) Slot.unset).toArray = ls at hl ⊢
  have hl : lv_has ls 10 [(0, .ref ((ma 0)))] := hl
  have hP : va_P (dC, dI) vC [((ma 0), .inr (5, [.int (iZ (cd)), .ref ((ma 1)), .ref ((ma 2)), .ref ((ma 3)), .ref ((ma 4)), .ref ((ma 5)), .int (iZ (td)), .int (iZ (mn)), .ref ((ma 6)), .ref ((ma 7)), .ref ((ma 8)), .ref ((ma 9)), .ref ((ma 10)), .ref ((ma 11)), .ref ((ma 12))])), ((ma 1), .inl (cA, 3, .inl (aR f))), ((ma 2), .inl (cA, 5, .inl (aR g))), ((ma 3), .inl (cJ, 5, .inr (.inl (aL rs)))), ((ma 4), .inl (cJ, 3, .inr (.inl (aL ww)))), ((ma 5), .inl (cJ, 5, .inr (.inl (aL mo)))), ((ma 6), .inl (cA, 2, .inl (aR dg))), ((ma 7), .inl (cJ, 26, .inr (.inl (aL pl)))), ((ma 8), .inl (cJ, 6, .inr (.inl (aL sl)))), ((ma 9), .inl (cJ, 20, .inr (.inl (aL lf)))), ((ma 10), .inl (cJ, 13, .inr (.inl (aL tl)))), ((ma 11), .inl (cJ, 41, .inr (.inl (aL rw)))), ((ma 12), .inl (cA, 2, .inl (aR rt)))] s.heap := hP
  have hD : va_D A [((ma 0), .inr (5, [.int (iZ (cd)), .ref ((ma 1)), .ref ((ma 2)), .ref ((ma 3)), .ref ((ma 4)), .ref ((ma 5)), .int (iZ (td)), .int (iZ (mn)), .ref ((ma 6)), .ref ((ma 7)), .ref ((ma 8)), .ref ((ma 9)), .ref ((ma 10)), .ref ((ma 11)), .ref ((ma 12))])), ((ma 1), .inl (cA, 3, .inl (aR f))), ((ma 2), .inl (cA, 5, .inl (aR g))), ((ma 3), .inl (cJ, 5, .inr (.inl (aL rs)))), ((ma 4), .inl (cJ, 3, .inr (.inl (aL ww)))), ((ma 5), .inl (cJ, 5, .inr (.inl (aL mo)))), ((ma 6), .inl (cA, 2, .inl (aR dg))), ((ma 7), .inl (cJ, 26, .inr (.inl (aL pl)))), ((ma 8), .inl (cJ, 6, .inr (.inl (aL sl)))), ((ma 9), .inl (cJ, 20, .inr (.inl (aL lf)))), ((ma 10), .inl (cJ, 13, .inr (.inl (aL tl)))), ((ma 11), .inl (cJ, 41, .inr (.inl (aL rw)))), ((ma 12), .inl (cA, 2, .inl (aR rt)))] := hD
  refine lv_ldc2 (v := lZ (4)) hx hb hown (show (Jvm.Cond.constantLong "OrderTwoCasesModel" 59 (lZ (4))).before _ s = true from hts _ k_523) d_Mod_findRest_0 ?_
  refine w_rdl (va_runS (As := [.long (lZ (4))]) (rest := []) ⟨hx, hb, hml, hown, hts⟩ (c_minverse l 4 (by decide)) (va_cwS 1 hts g_Mod_68 rfl rfl rfl (by decide +kernel) ⟨Nat.le_of_ble_eq_true rfl, Nat.le_of_ble_eq_true rfl⟩) preEq rfl rfl hl.1 rfl (lv_room (Nat.le_of_ble_eq_true rfl)) d_Mod_findRest_3 ⟨Nat.le_of_ble_eq_true rfl, Nat.le_of_ble_eq_true rfl⟩) ?_
  rw [iv_4]
  refine lv_lstore_n (lv' := [(1, .long (lZ (8001))), (0, .ref ((ma 0)))]) hx hb d_Mod_findRest_6 rfl hl (by decide) rfl (fun ls hl => ?_)
  refine lv_ldc2 (v := lZ (2)) hx hb hown (show (Jvm.Cond.constantLong "OrderTwoCasesModel" 57 (lZ (2))).before _ s = true from hts _ k_522) d_Mod_findRest_7 ?_
  refine w_rdl (va_runS (As := [.long (lZ (2))]) (rest := []) ⟨hx, hb, hml, hown, hts⟩ (c_minverse l 2 (by decide)) (va_cwS 1 hts g_Mod_68 rfl rfl rfl (by decide +kernel) ⟨Nat.le_of_ble_eq_true rfl, Nat.le_of_ble_eq_true rfl⟩) preEq rfl rfl hl.1 rfl (lv_room (Nat.le_of_ble_eq_true rfl)) d_Mod_findRest_10 ⟨Nat.le_of_ble_eq_true rfl, Nat.le_of_ble_eq_true rfl⟩) ?_
  rw [iv_2]
  refine lv_lstore_n (lv' := [(3, .long (lZ (16002))), (1, .long (lZ (8001))), (0, .ref ((ma 0)))]) hx hb d_Mod_findRest_13 rfl hl (by decide) rfl (fun ls hl => ?_)
  refine lv_iconst (v := iZ (0)) hx hb d_Mod_findRest_14 rfl ?_
  refine lv_istore (lv' := [(5, .int (iZ (0))), (3, .long (lZ (16002))), (1, .long (lZ (8001))), (0, .ref ((ma 0)))]) hx hb d_Mod_findRest_15 hl (by decide) rfl (fun ls hl => ?_)
  have loop_17 : ∀ (m_17 : Nat) (i : Int) (hi : 0 ≤ i ∧ i ≤ 5) (hmeas : 5 - i < (m_17 : Int)) (H : Heap) (locs : List Loc) (hP : va_P (dC, dI) vC [((ma 0), .inr (5, [.int (iZ (cd)), .ref ((ma 1)), .ref ((ma 2)), .ref ((ma 3)), .ref ((ma 4)), .ref ((ma 5)), .int (iZ (td)), .int (iZ (mn)), .ref ((ma 6)), .ref ((ma 7)), .ref ((ma 8)), .ref ((ma 9)), .ref ((ma 10)), .ref ((ma 11)), .ref ((ma 12))])), ((ma 1), .inl (cA, 3, .inl (aR f))), ((ma 2), .inl (cA, 5, .inl (aR g))), ((ma 3), .inl (cJ, 5, .inr (.inl (aL (fL (rez f g) rs i))))), ((ma 4), .inl (cJ, 3, .inr (.inl (aL ww)))), ((ma 5), .inl (cJ, 5, .inr (.inl (aL mo)))), ((ma 6), .inl (cA, 2, .inl (aR dg))), ((ma 7), .inl (cJ, 26, .inr (.inl (aL pl)))), ((ma 8), .inl (cJ, 6, .inr (.inl (aL sl)))), ((ma 9), .inl (cJ, 20, .inr (.inl (aL lf)))), ((ma 10), .inl (cJ, 13, .inr (.inl (aL tl)))), ((ma 11), .inl (cJ, 41, .inr (.inl (aL rw)))), ((ma 12), .inl (cA, 2, .inl (aR rt)))] H) (hD : va_D A [((ma 0), .inr (5, [.int (iZ (cd)), .ref ((ma 1)), .ref ((ma 2)), .ref ((ma 3)), .ref ((ma 4)), .ref ((ma 5)), .int (iZ (td)), .int (iZ (mn)), .ref ((ma 6)), .ref ((ma 7)), .ref ((ma 8)), .ref ((ma 9)), .ref ((ma 10)), .ref ((ma 11)), .ref ((ma 12))])), ((ma 1), .inl (cA, 3, .inl (aR f))), ((ma 2), .inl (cA, 5, .inl (aR g))), ((ma 3), .inl (cJ, 5, .inr (.inl (aL (fL (rez f g) rs i))))), ((ma 4), .inl (cJ, 3, .inr (.inl (aL ww)))), ((ma 5), .inl (cJ, 5, .inr (.inl (aL mo)))), ((ma 6), .inl (cA, 2, .inl (aR dg))), ((ma 7), .inl (cJ, 26, .inr (.inl (aL pl)))), ((ma 8), .inl (cJ, 6, .inr (.inl (aL sl)))), ((ma 9), .inl (cJ, 20, .inr (.inl (aL lf)))), ((ma 10), .inl (cJ, 13, .inr (.inl (aL tl)))), ((ma 11), .inl (cJ, 41, .inr (.inl (aL rw)))), ((ma 12), .inl (cA, 2, .inl (aR rt)))]) (hS : va_S A s.heap H locs) (ls : Array Slot) (hl : lv_has ls 10 [(5, .int (iZ (i))), (3, .long (lZ (16002))), (1, .long (lZ (8001))), (0, .ref ((ma 0)))]), W p l e ({ frames := 1, cells := 0, slots := 0, locals := 26 } : Room) s m ([.ref ((ma 0))] : List Value).toArray below meth c H locs 0 0 (MQ below (va_Qv (fun u : MS => rez f g = u.1 ∧ ww = u.2.1 ∧ mo = u.2.2.1 ∧ dg = u.2.2.2.1 ∧ pl = u.2.2.2.2.1 ∧ sl = u.2.2.2.2.2.1 ∧ lf = u.2.2.2.2.2.2.1 ∧ tl = u.2.2.2.2.2.2.2.1 ∧ rw = u.2.2.2.2.2.2.2.2.1 ∧ rt = u.2.2.2.2.2.2.2.2.2.1 ∧ cd = u.2.2.2.2.2.2.2.2.2.2.1 ∧ td = u.2.2.2.2.2.2.2.2.2.2.2.1 ∧ mn = u.2.2.2.2.2.2.2.2.2.2.2.2) (fun (u : MS) t => wB (dC, dI) vC A (mW cA cJ ma f g u) t) A) ([.ref ((ma 0))] : List Value).toArray s 0 0 A) (F0 m 17 ls []) := by
    intro m_17
    induction m_17 with
    | zero =>
      intro i hi hmeas
      exfalso; omega
    | succ m_17 ih_17 =>
      intro i hi hmeas H locs hP hD hS ls hl
      refine lv_iload hx hb d_Mod_findRest_17 (lv_at hl 0 rfl) ?_
      refine lv_iconst (v := iZ (5)) hx hb d_Mod_findRest_19 rfl ?_
      refine z_icmp_ge (tgt := 152) hx hb d_Mod_findRest_20 (by decide) (by omega) (by omega) (fun c_20 => ?_) (fun c_20 => ?_)
      · have hz : i = 5 := by omega
        subst hz
        obtain ⟨hP, hD⟩ := wfixL (wf := [((ma 0), .inr (5, [.int (iZ (cd)), .ref ((ma 1)), .ref ((ma 2)), .ref ((ma 3)), .ref ((ma 4)), .ref ((ma 5)), .int (iZ (td)), .int (iZ (mn)), .ref ((ma 6)), .ref ((ma 7)), .ref ((ma 8)), .ref ((ma 9)), .ref ((ma 10)), .ref ((ma 11)), .ref ((ma 12))])), ((ma 1), .inl (cA, 3, .inl (aR f))), ((ma 2), .inl (cA, 5, .inl (aR g))), ((ma 3), .inl (cJ, 5, .inr (.inl (aL (rez f g))))), ((ma 4), .inl (cJ, 3, .inr (.inl (aL ww)))), ((ma 5), .inl (cJ, 5, .inr (.inl (aL mo)))), ((ma 6), .inl (cA, 2, .inl (aR dg))), ((ma 7), .inl (cJ, 26, .inr (.inl (aL pl)))), ((ma 8), .inl (cJ, 6, .inr (.inl (aL sl)))), ((ma 9), .inl (cJ, 20, .inr (.inl (aL lf)))), ((ma 10), .inl (cJ, 13, .inr (.inl (aL tl)))), ((ma 11), .inl (cJ, 41, .inr (.inl (aL rw)))), ((ma 12), .inl (cA, 2, .inl (aR rt)))]) hP hD 3 rfl (rez f g) (fun k h0 h1 => if_pos ⟨h0, by omega⟩) rfl
        exact w_vret (post := fun u : MS => rez f g = u.1 ∧ ww = u.2.1 ∧ mo = u.2.2.1 ∧ dg = u.2.2.2.1 ∧ pl = u.2.2.2.2.1 ∧ sl = u.2.2.2.2.2.1 ∧ lf = u.2.2.2.2.2.2.1 ∧ tl = u.2.2.2.2.2.2.2.1 ∧ rw = u.2.2.2.2.2.2.2.2.1 ∧ rt = u.2.2.2.2.2.2.2.2.2.1 ∧ cd = u.2.2.2.2.2.2.2.2.2.2.1 ∧ td = u.2.2.2.2.2.2.2.2.2.2.2.1 ∧ mn = u.2.2.2.2.2.2.2.2.2.2.2.2) (wn := fun (u : MS) => mW cA cJ ma f g u) hx hb hr hlocks (rez f g, ww, mo, dg, pl, sl, lf, tl, rw, rt, cd, td, mn) ⟨rfl, rfl, rfl, rfl, rfl, rfl, rfl, rfl, rfl, rfl, rfl, rfl, rfl⟩ hP hD hS d_Mod_findRest_152
      · refine lv_lconst (v := lZ (0)) hx hb d_Mod_findRest_23 (by decide +kernel) ?_
        refine lv_lstore (lv' := [(6, .long (lZ (0))), (5, .int (iZ (i))), (3, .long (lZ (16002))), (1, .long (lZ (8001))), (0, .ref ((ma 0)))]) hx hb d_Mod_findRest_24 hl (by decide) rfl (fun ls hl => ?_)
        refine lv_iconst (v := iZ (0)) hx hb d_Mod_findRest_26 rfl ?_
        refine lv_istore (lv' := [(8, .int (iZ (0))), (6, .long (lZ (0))), (5, .int (iZ (i))), (3, .long (lZ (16002))), (1, .long (lZ (8001))), (0, .ref ((ma 0)))]) hx hb d_Mod_findRest_27 hl (by decide) rfl (fun ls hl => ?_)
        have loop_29 : ∀ (m_29 : Nat) (j : Int) (sum : Int) (hj : 0 ≤ j ∧ j ≤ 3) (hs9 : 0 ≤ sum ∧ sum < 32003) (hsum : sum = md (suM (fun t => f t * f (i - t)) j.toNat)) (hmeas : 3 - j < (m_29 : Int)) (H : Heap) (locs : List Loc) (hP : va_P (dC, dI) vC [((ma 0), .inr (5, [.int (iZ (cd)), .ref ((ma 1)), .ref ((ma 2)), .ref ((ma 3)), .ref ((ma 4)), .ref ((ma 5)), .int (iZ (td)), .int (iZ (mn)), .ref ((ma 6)), .ref ((ma 7)), .ref ((ma 8)), .ref ((ma 9)), .ref ((ma 10)), .ref ((ma 11)), .ref ((ma 12))])), ((ma 1), .inl (cA, 3, .inl (aR f))), ((ma 2), .inl (cA, 5, .inl (aR g))), ((ma 3), .inl (cJ, 5, .inr (.inl (aL (fL (rez f g) rs i))))), ((ma 4), .inl (cJ, 3, .inr (.inl (aL ww)))), ((ma 5), .inl (cJ, 5, .inr (.inl (aL mo)))), ((ma 6), .inl (cA, 2, .inl (aR dg))), ((ma 7), .inl (cJ, 26, .inr (.inl (aL pl)))), ((ma 8), .inl (cJ, 6, .inr (.inl (aL sl)))), ((ma 9), .inl (cJ, 20, .inr (.inl (aL lf)))), ((ma 10), .inl (cJ, 13, .inr (.inl (aL tl)))), ((ma 11), .inl (cJ, 41, .inr (.inl (aL rw)))), ((ma 12), .inl (cA, 2, .inl (aR rt)))] H) (hD : va_D A [((ma 0), .inr (5, [.int (iZ (cd)), .ref ((ma 1)), .ref ((ma 2)), .ref ((ma 3)), .ref ((ma 4)), .ref ((ma 5)), .int (iZ (td)), .int (iZ (mn)), .ref ((ma 6)), .ref ((ma 7)), .ref ((ma 8)), .ref ((ma 9)), .ref ((ma 10)), .ref ((ma 11)), .ref ((ma 12))])), ((ma 1), .inl (cA, 3, .inl (aR f))), ((ma 2), .inl (cA, 5, .inl (aR g))), ((ma 3), .inl (cJ, 5, .inr (.inl (aL (fL (rez f g) rs i))))), ((ma 4), .inl (cJ, 3, .inr (.inl (aL ww)))), ((ma 5), .inl (cJ, 5, .inr (.inl (aL mo)))), ((ma 6), .inl (cA, 2, .inl (aR dg))), ((ma 7), .inl (cJ, 26, .inr (.inl (aL pl)))), ((ma 8), .inl (cJ, 6, .inr (.inl (aL sl)))), ((ma 9), .inl (cJ, 20, .inr (.inl (aL lf)))), ((ma 10), .inl (cJ, 13, .inr (.inl (aL tl)))), ((ma 11), .inl (cJ, 41, .inr (.inl (aL rw)))), ((ma 12), .inl (cA, 2, .inl (aR rt)))]) (hS : va_S A s.heap H locs) (ls : Array Slot) (hl : lv_has ls 10 [(8, .int (iZ (j))), (6, .long (lZ (sum))), (5, .int (iZ (i))), (3, .long (lZ (16002))), (1, .long (lZ (8001))), (0, .ref ((ma 0)))]), W p l e ({ frames := 1, cells := 0, slots := 0, locals := 26 } : Room) s m ([.ref ((ma 0))] : List Value).toArray below meth c H locs 0 0 (MQ below (va_Qv (fun u : MS => rez f g = u.1 ∧ ww = u.2.1 ∧ mo = u.2.2.1 ∧ dg = u.2.2.2.1 ∧ pl = u.2.2.2.2.1 ∧ sl = u.2.2.2.2.2.1 ∧ lf = u.2.2.2.2.2.2.1 ∧ tl = u.2.2.2.2.2.2.2.1 ∧ rw = u.2.2.2.2.2.2.2.2.1 ∧ rt = u.2.2.2.2.2.2.2.2.2.1 ∧ cd = u.2.2.2.2.2.2.2.2.2.2.1 ∧ td = u.2.2.2.2.2.2.2.2.2.2.2.1 ∧ mn = u.2.2.2.2.2.2.2.2.2.2.2.2) (fun (u : MS) t => wB (dC, dI) vC A (mW cA cJ ma f g u) t) A) ([.ref ((ma 0))] : List Value).toArray s 0 0 A) (F0 m 29 ls []) := by
          intro m_29
          induction m_29 with
          | zero =>
            intro j sum hj hs9 hsum hmeas
            exfalso; omega
          | succ m_29 ih_29 =>
            intro j sum hj hs9 hsum hmeas H locs hP hD hS ls hl
            refine lv_iload hx hb d_Mod_findRest_29 (lv_at hl 0 rfl) ?_
            refine lv_iconst (v := iZ (3)) hx hb d_Mod_findRest_31 rfl ?_
            refine z_icmp_ge (tgt := 86) hx hb d_Mod_findRest_32 (by decide) (by omega) (by omega) (fun c_32 => ?_) (fun c_32 => ?_)
            · refine lv_iload hx hb d_Mod_findRest_86 (lv_at hl 2 rfl) ?_
              refine lv_iconst (v := iZ (2)) hx hb d_Mod_findRest_88 rfl ?_
              refine z_icmp_ge (tgt := 111) hx hb d_Mod_findRest_89 (by decide) (by omega) (by omega) (fun c_89 => ?_) (fun c_89 => ?_)
              · have hq6 : (0 : Int) ≤ 0 := Int.le_refl 0
                refine lv_lconst (v := lZ (0)) hx hb d_Mod_findRest_111 (by decide +kernel) ?_
                refine lv_lstore (lv' := [(8, .long (lZ (0))), (6, .long (lZ (sum))), (5, .int (iZ (i))), (3, .long (lZ (16002))), (1, .long (lZ (8001))), (0, .ref ((ma 0)))]) hx hb d_Mod_findRest_112 hl (by decide) rfl (fun ls hl => ?_)
                refine lv_aload_n hx hb d_Mod_findRest_114 rfl (lv_at hl 5 rfl) ?_
                refine va_get (D := (dC, dI)) (ci := 5) (v := .ref ((ma 3))) (C := "OrderTwoCasesModel") (T := F_Mod) (N := 15) hx hb hts la_Mod hown hK hP 0 rfl rfl 3 (by decide) (hts _ k_467) (fun _ h9 => h9) rfl d_Mod_findRest_115 ?_
                refine lv_iload hx hb d_Mod_findRest_118 (lv_at hl 2 rfl) ?_
                refine lv_lload hx hb d_Mod_findRest_120 (lv_at hl 1 rfl) ?_
                refine lv_lload_n hx hb d_Mod_findRest_122 rfl (lv_at hl 4 rfl) ?_
                refine z_lmul hx hb d_Mod_findRest_123 ?_
                refine lv_lload hx hb d_Mod_findRest_124 (lv_at hl 0 rfl) ?_
                refine lv_ldc2 (v := lZ (32003)) hx hb hown (show (Jvm.Cond.constantLong "OrderTwoCasesModel" 51 (lZ (32003))).before _ s = true from hts _ k_527) d_Mod_findRest_126 ?_
                refine z_lremmd hx hb d_Mod_findRest_129 (by omega) ?_
                refine lv_lload_n hx hb d_Mod_findRest_130 rfl (lv_at hl 3 rfl) ?_
                refine z_lmul hx hb d_Mod_findRest_131 ?_
                refine z_ladd hx hb d_Mod_findRest_132 ?_
                have hq7 := hg.r i
                refine lv_aload_n hx hb d_Mod_findRest_133 rfl (lv_at hl 5 rfl) ?_
                refine va_get (D := (dC, dI)) (ci := 5) (v := .ref ((ma 2))) (C := "OrderTwoCasesModel") (T := F_Mod) (N := 15) hx hb hts la_Mod hown hK hP 0 rfl rfl 2 (by decide) (hts _ k_466) (fun _ h9 => h9) rfl d_Mod_findRest_134 ?_
                refine lv_iload hx hb d_Mod_findRest_137 (lv_at hl 2 rfl) ?_
                refine z_iald hx hb hK hP 2 0 rfl rfl (by omega) (by omega) (by omega) d_Mod_findRest_139 ?_
                refine z_i2l hx hb d_Mod_findRest_140 (by omega) ?_
                refine z_lsub hx hb d_Mod_findRest_141 ?_
                refine w_rdl (va_runS (As := [.long (lZ (((sum * 8001) + ((md 0) * 16002)) - (g i)))]) (rest := [.int (iZ (i)), .ref ((ma 3))]) ⟨hx, hb, hml, hown, hts⟩ (c_modulo l (((sum * 8001) + ((md 0) * 16002)) - (g i)) (rst_bd hs9 (md_r _) (hg.r i))) (va_cwS 1 hts g_Mod_61 rfl rfl rfl (by decide +kernel) ⟨Nat.le_of_ble_eq_true rfl, Nat.le_of_ble_eq_true rfl⟩) preEq rfl rfl hl.1 rfl (lv_room (Nat.le_of_ble_eq_true rfl)) d_Mod_findRest_142 ⟨Nat.le_of_ble_eq_true rfl, Nat.le_of_ble_eq_true rfl⟩) ?_
                have hm_142 := md_r (((sum * 8001) + ((md 0) * 16002)) - (g i))
                refine z_last (wf := [((ma 0), .inr (5, [.int (iZ (cd)), .ref ((ma 1)), .ref ((ma 2)), .ref ((ma 3)), .ref ((ma 4)), .ref ((ma 5)), .int (iZ (td)), .int (iZ (mn)), .ref ((ma 6)), .ref ((ma 7)), .ref ((ma 8)), .ref ((ma 9)), .ref ((ma 10)), .ref ((ma 11)), .ref ((ma 12))])), ((ma 1), .inl (cA, 3, .inl (aR f))), ((ma 2), .inl (cA, 5, .inl (aR g))), ((ma 3), .inl (cJ, 5, .inr (.inl (aL (sT (fL (rez f g) rs i) i (md (((sum * 8001) + ((md 0) * 16002)) - (g i)))))))), ((ma 4), .inl (cJ, 3, .inr (.inl (aL ww)))), ((ma 5), .inl (cJ, 5, .inr (.inl (aL mo)))), ((ma 6), .inl (cA, 2, .inl (aR dg))), ((ma 7), .inl (cJ, 26, .inr (.inl (aL pl)))), ((ma 8), .inl (cJ, 6, .inr (.inl (aL sl)))), ((ma 9), .inl (cJ, 20, .inr (.inl (aL lf)))), ((ma 10), .inl (cJ, 13, .inr (.inl (aL tl)))), ((ma 11), .inl (cJ, 41, .inr (.inl (aL rw)))), ((ma 12), .inl (cA, 2, .inl (aR rt)))]) hx hb hK hP hD hS 3 1 rfl rfl (by omega) (by omega) (by omega) d_Mod_findRest_145 rfl (fun H locs hP hD hS => ?_)
                have hz9 : md (sum * 8001 + md 0 * 16002 - g i) = rez f g i := rez_at (by omega) (by unfold tmz; rw [hsum, show j.toNat = 3 by omega]) (by unfold slz; rw [hf.z (Or.inr (by omega)), Int.mul_zero])
                rw [fL_st (rez f g) rs (by omega) hz9] at hP hD
                refine z_iinc (lv' := [(5, .int (iZ (i + 1))), (8, .long (lZ (0))), (6, .long (lZ (sum))), (3, .long (lZ (16002))), (1, .long (lZ (8001))), (0, .ref ((ma 0)))]) hx hb d_Mod_findRest_146 hl (k := 2) rfl (by decide) rfl (fun ls hl => ?_)
                refine lv_goto (tgt := 17) hx hb d_Mod_findRest_149 (by decide) ?_
                exact ih_17 (i + 1) (by omega) (by omega) _ _ hP hD hS ls (lv_sub hl [0, 3, 4, 5] rfl)
              · have hq4 := hf.r (i + 1)
                have hq5 := mulr_bd (a := i + 1) (b := f (i + 1)) (by omega) hq4
                have hq6 : 0 ≤ (i + 1) * f (i + 1) := Int.mul_nonneg (by omega) hq4.1
                refine lv_iload hx hb d_Mod_findRest_92 (lv_at hl 2 rfl) ?_
                refine z_i2l hx hb d_Mod_findRest_94 (by omega) ?_
                refine lv_lconst (v := lZ (1)) hx hb d_Mod_findRest_95 (by decide +kernel) ?_
                refine z_ladd hx hb d_Mod_findRest_96 ?_
                refine lv_aload_n hx hb d_Mod_findRest_97 rfl (lv_at hl 5 rfl) ?_
                refine va_get (D := (dC, dI)) (ci := 5) (v := .ref ((ma 1))) (C := "OrderTwoCasesModel") (T := F_Mod) (N := 15) hx hb hts la_Mod hown hK hP 0 rfl rfl 1 (by decide) (hts _ k_465) (fun _ h9 => h9) rfl d_Mod_findRest_98 ?_
                refine lv_iload hx hb d_Mod_findRest_101 (lv_at hl 2 rfl) ?_
                refine lv_iconst (v := iZ (1)) hx hb d_Mod_findRest_103 rfl ?_
                refine z_iadd hx hb d_Mod_findRest_104 ?_
                refine z_iald hx hb hK hP 1 0 rfl rfl (by omega) (by omega) (by omega) d_Mod_findRest_105 ?_
                refine z_i2l hx hb d_Mod_findRest_106 (by omega) ?_
                refine z_lmul hx hb d_Mod_findRest_107 ?_
                refine lv_goto (tgt := 112) hx hb d_Mod_findRest_108 (by decide) ?_
                refine lv_lstore (lv' := [(8, .long (lZ ((i + 1) * (f (i + 1))))), (6, .long (lZ (sum))), (5, .int (iZ (i))), (3, .long (lZ (16002))), (1, .long (lZ (8001))), (0, .ref ((ma 0)))]) hx hb d_Mod_findRest_112 hl (by decide) rfl (fun ls hl => ?_)
                refine lv_aload_n hx hb d_Mod_findRest_114 rfl (lv_at hl 5 rfl) ?_
                refine va_get (D := (dC, dI)) (ci := 5) (v := .ref ((ma 3))) (C := "OrderTwoCasesModel") (T := F_Mod) (N := 15) hx hb hts la_Mod hown hK hP 0 rfl rfl 3 (by decide) (hts _ k_467) (fun _ h9 => h9) rfl d_Mod_findRest_115 ?_
                refine lv_iload hx hb d_Mod_findRest_118 (lv_at hl 2 rfl) ?_
                refine lv_lload hx hb d_Mod_findRest_120 (lv_at hl 1 rfl) ?_
                refine lv_lload_n hx hb d_Mod_findRest_122 rfl (lv_at hl 4 rfl) ?_
                refine z_lmul hx hb d_Mod_findRest_123 ?_
                refine lv_lload hx hb d_Mod_findRest_124 (lv_at hl 0 rfl) ?_
                refine lv_ldc2 (v := lZ (32003)) hx hb hown (show (Jvm.Cond.constantLong "OrderTwoCasesModel" 51 (lZ (32003))).before _ s = true from hts _ k_527) d_Mod_findRest_126 ?_
                refine z_lremmd hx hb d_Mod_findRest_129 (by omega) ?_
                refine lv_lload_n hx hb d_Mod_findRest_130 rfl (lv_at hl 3 rfl) ?_
                refine z_lmul hx hb d_Mod_findRest_131 ?_
                refine z_ladd hx hb d_Mod_findRest_132 ?_
                have hq7 := hg.r i
                refine lv_aload_n hx hb d_Mod_findRest_133 rfl (lv_at hl 5 rfl) ?_
                refine va_get (D := (dC, dI)) (ci := 5) (v := .ref ((ma 2))) (C := "OrderTwoCasesModel") (T := F_Mod) (N := 15) hx hb hts la_Mod hown hK hP 0 rfl rfl 2 (by decide) (hts _ k_466) (fun _ h9 => h9) rfl d_Mod_findRest_134 ?_
                refine lv_iload hx hb d_Mod_findRest_137 (lv_at hl 2 rfl) ?_
                refine z_iald hx hb hK hP 2 0 rfl rfl (by omega) (by omega) (by omega) d_Mod_findRest_139 ?_
                refine z_i2l hx hb d_Mod_findRest_140 (by omega) ?_
                refine z_lsub hx hb d_Mod_findRest_141 ?_
                refine w_rdl (va_runS (As := [.long (lZ (((sum * 8001) + ((md ((i + 1) * (f (i + 1)))) * 16002)) - (g i)))]) (rest := [.int (iZ (i)), .ref ((ma 3))]) ⟨hx, hb, hml, hown, hts⟩ (c_modulo l (((sum * 8001) + ((md ((i + 1) * (f (i + 1)))) * 16002)) - (g i)) (rst_bd hs9 (md_r _) (hg.r i))) (va_cwS 1 hts g_Mod_61 rfl rfl rfl (by decide +kernel) ⟨Nat.le_of_ble_eq_true rfl, Nat.le_of_ble_eq_true rfl⟩) preEq rfl rfl hl.1 rfl (lv_room (Nat.le_of_ble_eq_true rfl)) d_Mod_findRest_142 ⟨Nat.le_of_ble_eq_true rfl, Nat.le_of_ble_eq_true rfl⟩) ?_
                have hm_142 := md_r (((sum * 8001) + ((md ((i + 1) * (f (i + 1)))) * 16002)) - (g i))
                refine z_last (wf := [((ma 0), .inr (5, [.int (iZ (cd)), .ref ((ma 1)), .ref ((ma 2)), .ref ((ma 3)), .ref ((ma 4)), .ref ((ma 5)), .int (iZ (td)), .int (iZ (mn)), .ref ((ma 6)), .ref ((ma 7)), .ref ((ma 8)), .ref ((ma 9)), .ref ((ma 10)), .ref ((ma 11)), .ref ((ma 12))])), ((ma 1), .inl (cA, 3, .inl (aR f))), ((ma 2), .inl (cA, 5, .inl (aR g))), ((ma 3), .inl (cJ, 5, .inr (.inl (aL (sT (fL (rez f g) rs i) i (md (((sum * 8001) + ((md ((i + 1) * (f (i + 1)))) * 16002)) - (g i)))))))), ((ma 4), .inl (cJ, 3, .inr (.inl (aL ww)))), ((ma 5), .inl (cJ, 5, .inr (.inl (aL mo)))), ((ma 6), .inl (cA, 2, .inl (aR dg))), ((ma 7), .inl (cJ, 26, .inr (.inl (aL pl)))), ((ma 8), .inl (cJ, 6, .inr (.inl (aL sl)))), ((ma 9), .inl (cJ, 20, .inr (.inl (aL lf)))), ((ma 10), .inl (cJ, 13, .inr (.inl (aL tl)))), ((ma 11), .inl (cJ, 41, .inr (.inl (aL rw)))), ((ma 12), .inl (cA, 2, .inl (aR rt)))]) hx hb hK hP hD hS 3 1 rfl rfl (by omega) (by omega) (by omega) d_Mod_findRest_145 rfl (fun H locs hP hD hS => ?_)
                have hz9 : md (sum * 8001 + md ((i + 1) * f (i + 1)) * 16002 - g i) = rez f g i := rez_at (by omega) (by unfold tmz; rw [hsum, show j.toNat = 3 by omega]) rfl
                rw [fL_st (rez f g) rs (by omega) hz9] at hP hD
                refine z_iinc (lv' := [(5, .int (iZ (i + 1))), (8, .long (lZ ((i + 1) * (f (i + 1))))), (6, .long (lZ (sum))), (3, .long (lZ (16002))), (1, .long (lZ (8001))), (0, .ref ((ma 0)))]) hx hb d_Mod_findRest_146 hl (k := 2) rfl (by decide) rfl (fun ls hl => ?_)
                refine lv_goto (tgt := 17) hx hb d_Mod_findRest_149 (by decide) ?_
                exact ih_17 (i + 1) (by omega) (by omega) _ _ hP hD hS ls (lv_sub hl [0, 3, 4, 5] rfl)
            · refine lv_iload hx hb d_Mod_findRest_35 (lv_at hl 2 rfl) ?_
              refine lv_iload hx hb d_Mod_findRest_37 (lv_at hl 0 rfl) ?_
              refine z_isub hx hb d_Mod_findRest_39 ?_
              refine z_i2l hx hb d_Mod_findRest_40 (by omega) ?_
              refine lv_lconst (v := lZ (0)) hx hb d_Mod_findRest_41 (by decide +kernel) ?_
              refine lv_ldc2 (v := lZ (2)) hx hb hown (show (Jvm.Cond.constantLong "OrderTwoCasesModel" 57 (lZ (2))).before _ s = true from hts _ k_522) d_Mod_findRest_42 ?_
              refine w_rdi (va_runS (As := [.long (lZ (i - j)), .long (lZ (0)), .long (lZ (2))]) (rest := []) ⟨hx, hb, hml, hown, hts⟩ (c_min l (i - j) 0 2 (by omega) (by omega) (by omega)) (va_cwS 3 hts g_Mod_53 rfl rfl rfl (by decide +kernel) ⟨Nat.le_of_ble_eq_true rfl, Nat.le_of_ble_eq_true rfl⟩) preEq rfl rfl hl.1 rfl (lv_room (Nat.le_of_ble_eq_true rfl)) d_Mod_findRest_45 ⟨Nat.le_of_ble_eq_true rfl, Nat.le_of_ble_eq_true rfl⟩) ?_
              refine z_if_eq (tgt := 80) hx hb d_Mod_findRest_48 (by decide) (by split <;> omega) (fun c_48 => ?_) (fun c_48 => ?_)
              · refine z_iinc (lv' := [(8, .int (iZ (j + 1))), (6, .long (lZ (sum))), (5, .int (iZ (i))), (3, .long (lZ (16002))), (1, .long (lZ (8001))), (0, .ref ((ma 0)))]) hx hb d_Mod_findRest_80 hl (k := 0) rfl (by decide) rfl (fun ls hl => ?_)
                refine lv_goto (tgt := 29) hx hb d_Mod_findRest_83 (by decide) ?_
                exact ih_29 (j + 1) sum (by omega) hs9 (sum_out (h := (fun t => f t * f (i - t))) (by omega) hsum (by show f j * f (i - j) = 0; rw [hf.z (k := i - j) (by have := no_in c_48; omega), Int.mul_zero])) (by omega) _ _ hP hD hS ls (lv_sub hl [0, 1, 2, 3, 4, 5] rfl)
              · have hin := yes_in c_48
                have hq1 := mul_bd (hf.r j) (hf.r (i - j))
                have hq2 := hf.r j
                have hq3 := hf.r (i - j)
                refine lv_lload hx hb d_Mod_findRest_51 (lv_at hl 1 rfl) ?_
                refine lv_aload_n hx hb d_Mod_findRest_53 rfl (lv_at hl 5 rfl) ?_
                refine va_get (D := (dC, dI)) (ci := 5) (v := .ref ((ma 1))) (C := "OrderTwoCasesModel") (T := F_Mod) (N := 15) hx hb hts la_Mod hown hK hP 0 rfl rfl 1 (by decide) (hts _ k_465) (fun _ h9 => h9) rfl d_Mod_findRest_54 ?_
                refine lv_iload hx hb d_Mod_findRest_57 (lv_at hl 0 rfl) ?_
                refine z_iald hx hb hK hP 1 0 rfl rfl (by omega) (by omega) (by omega) d_Mod_findRest_59 ?_
                refine z_i2l hx hb d_Mod_findRest_60 (by omega) ?_
                refine lv_aload_n hx hb d_Mod_findRest_61 rfl (lv_at hl 5 rfl) ?_
                refine va_get (D := (dC, dI)) (ci := 5) (v := .ref ((ma 1))) (C := "OrderTwoCasesModel") (T := F_Mod) (N := 15) hx hb hts la_Mod hown hK hP 0 rfl rfl 1 (by decide) (hts _ k_465) (fun _ h9 => h9) rfl d_Mod_findRest_62 ?_
                refine lv_iload hx hb d_Mod_findRest_65 (lv_at hl 2 rfl) ?_
                refine lv_iload hx hb d_Mod_findRest_67 (lv_at hl 0 rfl) ?_
                refine z_isub hx hb d_Mod_findRest_69 ?_
                refine z_iald hx hb hK hP 1 0 rfl rfl (by omega) (by omega) (by omega) d_Mod_findRest_70 ?_
                refine z_i2l hx hb d_Mod_findRest_71 (by omega) ?_
                refine z_lmul hx hb d_Mod_findRest_72 ?_
                refine z_ladd hx hb d_Mod_findRest_73 ?_
                refine lv_ldc2 (v := lZ (32003)) hx hb hown (show (Jvm.Cond.constantLong "OrderTwoCasesModel" 51 (lZ (32003))).before _ s = true from hts _ k_527) d_Mod_findRest_74 ?_
                refine z_lremmd hx hb d_Mod_findRest_77 (by omega) ?_
                refine lv_lstore (lv' := [(6, .long (lZ (md (sum + ((f j) * (f (i - j))))))), (8, .int (iZ (j))), (5, .int (iZ (i))), (3, .long (lZ (16002))), (1, .long (lZ (8001))), (0, .ref ((ma 0)))]) hx hb d_Mod_findRest_78 hl (by decide) rfl (fun ls hl => ?_)
                refine z_iinc (lv' := [(8, .int (iZ (j + 1))), (6, .long (lZ (md (sum + ((f j) * (f (i - j))))))), (5, .int (iZ (i))), (3, .long (lZ (16002))), (1, .long (lZ (8001))), (0, .ref ((ma 0)))]) hx hb d_Mod_findRest_80 hl (k := 1) rfl (by decide) rfl (fun ls hl => ?_)
                refine lv_goto (tgt := 29) hx hb d_Mod_findRest_83 (by decide) ?_
                exact ih_29 (j + 1) (md (sum + ((f j) * (f (i - j))))) (by omega) (md_r _) (sum_in (h := (fun t => f t * f (i - t))) (by omega) hsum) (by omega) _ _ hP hD hS ls (lv_sub hl [0, 1, 2, 3, 4, 5] rfl)
        exact loop_29 4 0 0 (by omega) (by omega) rfl (by omega) _ _ hP hD hS ls (lv_sub hl [0, 1, 2, 3, 4, 5] rfl)
  rw [← fL_0 (rez f g) rs] at hP hD
  exact loop_17 6 0 (by omega) (by omega) _ _ hP hD hS ls (lv_sub hl [0, 1, 2, 3] rfl)

set_option maxHeartbeats 4000000 in
set_option maxRecDepth 100000 in
/-- high() -/
theorem c_high (l : Launch) (dC : Nat → ClassId) (dI : Nat → Nat → Nat) (cA cJ : ClassId) (ma : Nat → Nat) (f g rs ww mo dg pl sl lf tl rw rt : Int → Int) (cd td mn : Int) (hr5 : RoW 5 rs) : Met l y_Mod_high w_Mod_high ({ frames := 0, cells := 0, slots := 0, locals := 0 }) (va_Pc [.ref ((ma 0))] (wR (dC, dI) vC [(cA, .int), (cJ, .long)] (mW cA cJ ma f g (rs, ww, mo, dg, pl, sl, lf, tl, rw, rt, cd, td, mn)))) (vp_Si (fun r => r = iZ (tpz rs 5))) 0 0 (fun _ => False) := by
  refine Met.ofW (cc := b_Mod_high) (maxL := 2) (ret := (Option.some Jvm.ClassFile.FieldType.int)) (by decide) rfl ?_
  intro p e s m args below meth c s₁ B hml hv
  obtain ⟨rfl, hP, hK⟩ := hv
  have hx := B.exec
  have hb := B.bytes
  have hr := B.returns
  have hts : ∀ w ∈ tT, w.before _ s = true := fun w h => atoms_spec (ws := w_Mod_high) B.pre w (List.mem_cons_of_mem _ h)
  have hown : s.vm.findClass "OrderTwoCasesModel" = some m.cls := findClass_of_methodNamed B.named
  have hlocks := B.notSynchronized
  have hl := lv_entry ([.ref ((ma 0))]) (n := 2) (Nat.le_of_ble_eq_true rfl)
  rw [lg_entry_eq]
  generalize (lg_sl ([.ref ((ma 0))]) ++ List.replicate (2 - (lg_sl ([.ref ((ma 0))])).length) Slot.unset).toArray = ls at hl ⊢
  have hl : lv_has ls 2 [(0, .ref ((ma 0)))] := hl
  have hP : va_P (dC, dI) vC [((ma 0), .inr (5, [.int (iZ (cd)), .ref ((ma 1)), .ref ((ma 2)), .ref ((ma 3)), .ref ((ma 4)), .ref ((ma 5)), .int (iZ (td)), .int (iZ (mn)), .ref ((ma 6)), .ref ((ma 7)), .ref ((ma 8)), .ref ((ma 9)), .ref ((ma 10)), .ref ((ma 11)), .ref ((ma 12))])), ((ma 1), .inl (cA, 3, .inl (aR f))), ((ma 2), .inl (cA, 5, .inl (aR g))), ((ma 3), .inl (cJ, 5, .inr (.inl (aL rs)))), ((ma 4), .inl (cJ, 3, .inr (.inl (aL ww)))), ((ma 5), .inl (cJ, 5, .inr (.inl (aL mo)))), ((ma 6), .inl (cA, 2, .inl (aR dg))), ((ma 7), .inl (cJ, 26, .inr (.inl (aL pl)))), ((ma 8), .inl (cJ, 6, .inr (.inl (aL sl)))), ((ma 9), .inl (cJ, 20, .inr (.inl (aL lf)))), ((ma 10), .inl (cJ, 13, .inr (.inl (aL tl)))), ((ma 11), .inl (cJ, 41, .inr (.inl (aL rw)))), ((ma 12), .inl (cA, 2, .inl (aR rt)))] s.heap := hP
  refine lv_iconst (v := iZ (4)) hx hb d_Mod_high_0 rfl ?_
  refine lv_istore_n (lv' := [(1, .int (iZ (4))), (0, .ref ((ma 0)))]) hx hb d_Mod_high_1 rfl hl (by decide) rfl (fun ls hl => ?_)
  have loop_2 : ∀ (m_2 : Nat) (k : Int) (hk : -1 ≤ k ∧ k < 5) (hinv : tpz rs (k + 1).toNat = tpz rs 5) (hmeas : k + 1 < (m_2 : Int)) (ls : Array Slot) (hl : lv_has ls 2 [(1, .int (iZ (k))), (0, .ref ((ma 0)))]), W p l e ({ frames := 0, cells := 0, slots := 0, locals := 0 } : Room) s m ([.ref ((ma 0))] : List Value).toArray below meth c s.heap [] 0 0 (MQ below (vp_Si (fun r => r = iZ (tpz rs 5))) ([.ref ((ma 0))] : List Value).toArray s 0 0 (fun _ => False)) (F0 m 2 ls []) := by
    intro m_2
    induction m_2 with
    | zero =>
      intro k hk hinv hmeas
      exfalso; omega
    | succ m_2 ih_2 =>
      intro k hk hinv hmeas ls hl
      refine lv_iload_n hx hb d_Mod_high_2 rfl (lv_at hl 0 rfl) ?_
      refine z_if_lt (tgt := 23) hx hb d_Mod_high_3 (by decide) (by omega) (fun c_3 => ?_) (fun c_3 => ?_)
      · have hk9 : k = tpz rs 5 := by
          rw [← hinv]
          by_cases q : k < 0
          · rw [show k = -1 by omega]; rfl
          · rw [tpz_hit (by omega) (by omega)]
        refine lv_iload_n hx hb d_Mod_high_23 rfl (lv_at hl 0 rfl) ?_
        exact w_reti hx hb hr hlocks (congrArg iZ hk9) d_Mod_high_24
      · refine lv_aload_n hx hb d_Mod_high_6 rfl (lv_at hl 1 rfl) ?_
        refine va_get (D := (dC, dI)) (ci := 5) (v := .ref ((ma 3))) (C := "OrderTwoCasesModel") (T := F_Mod) (N := 15) hx hb hts la_Mod hown hK hP 0 rfl rfl 3 (by decide) (hts _ k_467) (fun _ h9 => h9) rfl d_Mod_high_7 ?_
        refine lv_iload_n hx hb d_Mod_high_10 rfl (lv_at hl 0 rfl) ?_
        refine z_lald hx hb hK hP 3 1 rfl rfl (by omega) (by omega) (by omega) d_Mod_high_11 ?_
        have hq := hr5.r k
        refine lv_lconst (v := lZ (0)) hx hb d_Mod_high_12 (by decide +kernel) ?_
        refine z_lcmp hx hb d_Mod_high_13 (by omega) (by omega) ?_
        have hcm_13 := cmz_s (rs k) 0
        refine z_if_ne (tgt := 23) hx hb d_Mod_high_14 (by decide) (by omega) (fun c_14 => ?_) (fun c_14 => ?_)
        · have hk9 : k = tpz rs 5 := by
            rw [← hinv]
            by_cases q : k < 0
            · rw [show k = -1 by omega]; rfl
            · rw [tpz_hit (by omega) (by omega)]
          refine lv_iload_n hx hb d_Mod_high_23 rfl (lv_at hl 0 rfl) ?_
          exact w_reti hx hb hr hlocks (congrArg iZ hk9) d_Mod_high_24
        · refine z_iinc (lv' := [(1, .int (iZ (k + (-1)))), (0, .ref ((ma 0)))]) hx hb d_Mod_high_17 hl (k := 0) rfl (by decide) rfl (fun ls hl => ?_)
          refine lv_goto (tgt := 2) hx hb d_Mod_high_20 (by decide) ?_
          exact ih_2 (k + -1) (by omega) (by rw [← tpz_miss (by omega) (by omega)]; exact hinv) (by omega) ls (lv_sub hl [0, 1] rfl)
  exact loop_2 6 4 (by omega) rfl (by omega) ls (lv_sub hl [0, 1] rfl)
