set_option maxHeartbeats 4000000 in
set_option maxRecDepth 100000 in
/-- Operator.lowerTerms(y, k) -/
theorem c_lowerTerms (l : Launch) (dC : Nat → ClassId) (dI : Nat → Nat → Nat) (cA : ClassId) (o F fa Z za h a n : Nat) (f g y : Int → Int) (hn : (n : Int) ≤ 41) (hf : RoW 3 f) (hg : RoW 5 g) (hy : RoW n y) (k : Int) (hk : -90 ≤ k ∧ k ≤ 90) : Met l y_Opr_lowerTerms w_Opr_lowerTerms ({ frames := 1, cells := 0, slots := 0, locals := 22 }) (va_Pc [.ref o, .ref h, .int (iZ (k))] (wR (dC, dI) vC [(cA, .int)] [(o, .inr (1, [.ref F, .ref Z])), (F, .inr (0, [.ref fa])), (fa, .inl (cA, 3, .inl (aR f))), (Z, .inr (0, [.ref za])), (za, .inl (cA, 5, .inl (aR g))), (h, .inr (0, [.ref a])), (a, .inl (cA, n, .inl (aR y)))])) (vp_Si (fun r => r = iZ (lwz f g y k))) 0 0 (fun _ => False) := by
  refine Met.ofW (cc := b_Opr_lowerTerms) (maxL := 6) (ret := (Option.some Jvm.ClassFile.FieldType.int)) (by decide) rfl ?_
  intro p e s m args below meth c s₁ B hml hv
  obtain ⟨rfl, hP, hK⟩ := hv
  have hx := B.exec
  have hb := B.bytes
  have hr := B.returns
  have hts : ∀ w ∈ tT, w.before _ s = true := fun w h => atoms_spec (ws := w_Opr_lowerTerms) B.pre w (List.mem_cons_of_mem _ h)
  have hown : s.vm.findClass "OrderTwoCases$Operator" = some m.cls := findClass_of_methodNamed B.named
  have hlocks := B.notSynchronized
  have hl := lv_entry ([.ref o, .ref h, .int (iZ (k))]) (n := 6) (Nat.le_of_ble_eq_true rfl)
  rw [lg_entry_eq]
  generalize (lg_sl ([.ref o, .ref h, .int (iZ (k))]) ++ List.replicate (6 - (lg_sl ([.ref o, .ref h, .int (iZ (k))])).length) Slot.unset).toArray = ls at hl ⊢
  have hl : lv_has ls 6 [(0, .ref o), (1, .ref h), (2, .int (iZ (k)))] := hl
  refine lv_lconst (v := lZ (0)) hx hb d_Opr_lowerTerms_0 (by decide +kernel) ?_
  refine lv_lstore_n (lv' := [(3, .long (lZ (0))), (0, .ref o), (1, .ref h), (2, .int (iZ (k)))]) hx hb d_Opr_lowerTerms_1 rfl hl (by decide) rfl (fun ls hl => ?_)
  refine lv_iconst (v := iZ (0)) hx hb d_Opr_lowerTerms_2 rfl ?_
  refine lv_istore (lv' := [(5, .int (iZ (0))), (3, .long (lZ (0))), (0, .ref o), (1, .ref h), (2, .int (iZ (k)))]) hx hb d_Opr_lowerTerms_3 hl (by decide) rfl (fun ls hl => ?_)
  have loop_5 : ∀ (m_5 : Nat) (i : Int) (sum : Int) (hi : 0 ≤ i ∧ i ≤ 3) (hsum : sum = suM (fun i => f i * slr y (k - i)) i.toNat) (hmeas : 3 - i < (m_5 : Int)) (ls : Array Slot) (hl : lv_has ls 6 [(5, .int (iZ (i))), (3, .long (lZ (sum))), (0, .ref o), (1, .ref h), (2, .int (iZ (k)))]), W p l e ({ frames := 1, cells := 0, slots := 0, locals := 22 } : Room) s m ([.ref o, .ref h, .int (iZ (k))] : List Value).toArray below meth c s.heap [] 0 0 (MQ below (vp_Si (fun r => r = iZ (lwz f g y k))) ([.ref o, .ref h, .int (iZ (k))] : List Value).toArray s 0 0 (fun _ => False)) (F0 m 5 ls []) := by
    intro m_5
    induction m_5 with
    | zero =>
      intro i sum hi hsum hmeas
      exfalso; omega
    | succ m_5 ih_5 =>
      intro i sum hi hsum hmeas ls hl
      refine lv_iload hx hb d_Opr_lowerTerms_5 (lv_at hl 0 rfl) ?_
      refine lv_iconst (v := iZ (2)) hx hb d_Opr_lowerTerms_7 rfl ?_
      refine z_icmp_gt (tgt := 39) hx hb d_Opr_lowerTerms_8 (by decide) (by omega) (by omega) (fun c_8 => ?_) (fun c_8 => ?_)
      · refine lv_iconst (v := iZ (0)) hx hb d_Opr_lowerTerms_39 rfl ?_
        refine lv_istore (lv' := [(5, .int (iZ (0))), (3, .long (lZ (sum))), (0, .ref o), (1, .ref h), (2, .int (iZ (k)))]) hx hb d_Opr_lowerTerms_40 hl (by decide) rfl (fun ls hl => ?_)
        have loop_42 : ∀ (m_42 : Nat) (i : Int) (sum : Int) (hi : 0 ≤ i ∧ i ≤ 5) (hsum : sum = suM (fun i => f i * slr y (k - i)) 3 + suM (fun i => g i * y (k - i)) i.toNat) (hmeas : 5 - i < (m_42 : Int)) (ls : Array Slot) (hl : lv_has ls 6 [(5, .int (iZ (i))), (3, .long (lZ (sum))), (0, .ref o), (1, .ref h), (2, .int (iZ (k)))]), W p l e ({ frames := 1, cells := 0, slots := 0, locals := 22 } : Room) s m ([.ref o, .ref h, .int (iZ (k))] : List Value).toArray below meth c s.heap [] 0 0 (MQ below (vp_Si (fun r => r = iZ (lwz f g y k))) ([.ref o, .ref h, .int (iZ (k))] : List Value).toArray s 0 0 (fun _ => False)) (F0 m 42 ls []) := by
          intro m_42
          induction m_42 with
          | zero =>
            intro i sum hi hsum hmeas
            exfalso; omega
          | succ m_42 ih_42 =>
            intro i sum hi hsum hmeas ls hl
            refine lv_iload hx hb d_Opr_lowerTerms_42 (lv_at hl 0 rfl) ?_
            refine lv_iconst (v := iZ (4)) hx hb d_Opr_lowerTerms_44 rfl ?_
            refine z_icmp_gt (tgt := 77) hx hb d_Opr_lowerTerms_45 (by decide) (by omega) (by omega) (fun c_45 => ?_) (fun c_45 => ?_)
            · refine lv_lload_n hx hb d_Opr_lowerTerms_77 rfl (lv_at hl 1 rfl) ?_
              refine w_rdi (va_runS (As := [.long (lZ (sum))]) (rest := []) ⟨hx, hb, hml, hown, hts⟩ (c_of l sum (by have b1 := suM_bd (h := (fun i => f i * slr y (k - i))) (M := 41989248164) (fun j => lw_bd (hf.r j) (slr_bd hn hy _)) 3; have b2 := suM_bd (h := (fun i => g i * y (k - i))) (M := 1024128004) (fun j => mul_bd (hg.r j) (hy.r (k - j))) i.toNat; rw [hsum]; omega)) (va_cwS 1 hts g_Opr_31 rfl rfl rfl (by decide +kernel) ⟨Nat.le_of_ble_eq_true rfl, Nat.le_of_ble_eq_true rfl⟩) preEq rfl rfl hl.1 rfl (lv_room (Nat.le_of_ble_eq_true rfl)) d_Opr_lowerTerms_78 ⟨Nat.le_of_ble_eq_true rfl, Nat.le_of_ble_eq_true rfl⟩) ?_
              exact w_reti hx hb hr hlocks (by rw [lwz_r, hsum, show i = 5 by omega]; rfl) d_Opr_lowerTerms_81
            · refine lv_lload_n hx hb d_Opr_lowerTerms_48 rfl (lv_at hl 1 rfl) ?_
              refine lv_aload_n hx hb d_Opr_lowerTerms_49 rfl (lv_at hl 2 rfl) ?_
              refine va_get (D := (dC, dI)) (ci := 1) (v := .ref Z) (C := "OrderTwoCases$Operator") (T := F_Opr) (N := 2) hx hb hts la_Opr hown hK hP 0 rfl rfl 1 (by decide) (hts _ k_44) (fun _ h9 => h9) rfl d_Opr_lowerTerms_50 ?_
              refine lv_iload hx hb d_Opr_lowerTerms_53 (lv_at hl 0 rfl) ?_
              refine w_rdi (va_runV (As := [.int (iZ (i))]) (rest := [.long (lZ (sum))]) ⟨hx, hb, hml, hown, hts⟩ (c_get l dC dI cA Z za 5 g (by omega) hg i (by omega)) (cwV 1 hts g_Opr_23 rfl rfl rfl (by decide +kernel) ⟨Nat.le_of_ble_eq_true rfl, Nat.le_of_ble_eq_true rfl⟩) (wR_preV hK hP [0] rfl [3, 4] rfl rfl rfl 3 rfl) rfl rfl hl.1 rfl (lv_room (Nat.le_of_ble_eq_true rfl)) d_Opr_lowerTerms_55 ⟨Nat.le_of_ble_eq_true rfl, Nat.le_of_ble_eq_true rfl⟩) ?_
              have hg_55 : 0 ≤ g i ∧ g i < 32003 := (hg).r (i)
              refine z_i2l hx hb d_Opr_lowerTerms_58 (by omega) ?_
              refine lv_aload_n hx hb d_Opr_lowerTerms_59 rfl (lv_at hl 3 rfl) ?_
              refine lv_iload_n hx hb d_Opr_lowerTerms_60 rfl (lv_at hl 4 rfl) ?_
              refine lv_iload hx hb d_Opr_lowerTerms_61 (lv_at hl 0 rfl) ?_
              refine z_isub hx hb d_Opr_lowerTerms_63 ?_
              refine w_rdi (va_runV (As := [.int (iZ (k - i))]) (rest := [.long (lZ (g i)), .long (lZ (sum))]) ⟨hx, hb, hml, hown, hts⟩ (c_get l dC dI cA h a n y (by omega) hy (k - i) (by omega)) (cwV 1 hts g_Opr_23 rfl rfl rfl (by decide +kernel) ⟨Nat.le_of_ble_eq_true rfl, Nat.le_of_ble_eq_true rfl⟩) (wR_preV hK hP [0] rfl [5, 6] rfl rfl rfl 5 rfl) rfl rfl hl.1 rfl (lv_room (Nat.le_of_ble_eq_true rfl)) d_Opr_lowerTerms_64 ⟨Nat.le_of_ble_eq_true rfl, Nat.le_of_ble_eq_true rfl⟩) ?_
              have hg_64 : 0 ≤ y (k - i) ∧ y (k - i) < 32003 := (hy).r (k - i)
              refine z_i2l hx hb d_Opr_lowerTerms_67 (by omega) ?_
              refine z_lmul hx hb d_Opr_lowerTerms_68 ?_
              refine z_ladd hx hb d_Opr_lowerTerms_69 ?_
              refine lv_lstore_n (lv' := [(3, .long (lZ (sum + ((g i) * (y (k - i)))))), (5, .int (iZ (i))), (0, .ref o), (1, .ref h), (2, .int (iZ (k)))]) hx hb d_Opr_lowerTerms_70 rfl hl (by decide) rfl (fun ls hl => ?_)
              refine z_iinc (lv' := [(5, .int (iZ (i + 1))), (3, .long (lZ (sum + ((g i) * (y (k - i)))))), (0, .ref o), (1, .ref h), (2, .int (iZ (k)))]) hx hb d_Opr_lowerTerms_71 hl (k := 1) rfl (by decide) rfl (fun ls hl => ?_)
              refine lv_goto (tgt := 42) hx hb d_Opr_lowerTerms_74 (by decide) ?_
              exact ih_42 (i + 1) (sum + ((g i) * (y (k - i)))) (by omega) (by rw [hsum, Int.add_assoc]; congr 1; exact suM_step (fun i => g i * y (k - i)) (by omega)) (by omega) ls (lv_sub hl [0, 1, 2, 3, 4] rfl)
        exact loop_42 6 0 sum (by omega) (by rw [hsum, show i = 3 by omega]; exact (Int.add_zero _).symm) (by omega) ls (lv_sub hl [0, 1, 2, 3, 4] rfl)
      · refine lv_lload_n hx hb d_Opr_lowerTerms_11 rfl (lv_at hl 1 rfl) ?_
        refine lv_aload_n hx hb d_Opr_lowerTerms_12 rfl (lv_at hl 2 rfl) ?_
        refine va_get (D := (dC, dI)) (ci := 1) (v := .ref F) (C := "OrderTwoCases$Operator") (T := F_Opr) (N := 2) hx hb hts la_Opr hown hK hP 0 rfl rfl 0 (by decide) (hts _ k_40) (fun _ h9 => h9) rfl d_Opr_lowerTerms_13 ?_
        refine lv_iload hx hb d_Opr_lowerTerms_16 (lv_at hl 0 rfl) ?_
        refine w_rdi (va_runV (As := [.int (iZ (i))]) (rest := [.long (lZ (sum))]) ⟨hx, hb, hml, hown, hts⟩ (c_get l dC dI cA F fa 3 f (by omega) hf i (by omega)) (cwV 1 hts g_Opr_23 rfl rfl rfl (by decide +kernel) ⟨Nat.le_of_ble_eq_true rfl, Nat.le_of_ble_eq_true rfl⟩) (wR_preV hK hP [0] rfl [1, 2] rfl rfl rfl 1 rfl) rfl rfl hl.1 rfl (lv_room (Nat.le_of_ble_eq_true rfl)) d_Opr_lowerTerms_18 ⟨Nat.le_of_ble_eq_true rfl, Nat.le_of_ble_eq_true rfl⟩) ?_
        have hg_18 : 0 ≤ f i ∧ f i < 32003 := (hf).r (i)
        refine z_i2l hx hb d_Opr_lowerTerms_21 (by omega) ?_
        refine lv_aload_n hx hb d_Opr_lowerTerms_22 rfl (lv_at hl 3 rfl) ?_
        refine lv_iload_n hx hb d_Opr_lowerTerms_23 rfl (lv_at hl 4 rfl) ?_
        refine lv_iload hx hb d_Opr_lowerTerms_24 (lv_at hl 0 rfl) ?_
        refine z_isub hx hb d_Opr_lowerTerms_26 ?_
        refine w_rdl (va_runV (As := [.int (iZ (k - i))]) (rest := [.long (lZ (f i)), .long (lZ (sum))]) ⟨hx, hb, hml, hown, hts⟩ (c_slopeAt l dC dI cA h a n y (by omega) hy (k - i) (by omega)) (cwV 1 hts g_Opr_27 rfl rfl rfl (by decide +kernel) ⟨Nat.le_of_ble_eq_true rfl, Nat.le_of_ble_eq_true rfl⟩) (wR_preV hK hP [0] rfl [5, 6] rfl rfl rfl 5 rfl) rfl rfl hl.1 rfl (lv_room (Nat.le_of_ble_eq_true rfl)) d_Opr_lowerTerms_27 ⟨Nat.le_of_ble_eq_true rfl, Nat.le_of_ble_eq_true rfl⟩) ?_
        have hg_27 : 0 ≤ slr y (k - i) ∧ slr y (k - i) ≤ 1312082 := slr_bd (by omega) hy _
        refine z_lmul hx hb d_Opr_lowerTerms_30 ?_
        refine z_ladd hx hb d_Opr_lowerTerms_31 ?_
        refine lv_lstore_n (lv' := [(3, .long (lZ (sum + ((f i) * (slr y (k - i)))))), (5, .int (iZ (i))), (0, .ref o), (1, .ref h), (2, .int (iZ (k)))]) hx hb d_Opr_lowerTerms_32 rfl hl (by decide) rfl (fun ls hl => ?_)
        refine z_iinc (lv' := [(5, .int (iZ (i + 1))), (3, .long (lZ (sum + ((f i) * (slr y (k - i)))))), (0, .ref o), (1, .ref h), (2, .int (iZ (k)))]) hx hb d_Opr_lowerTerms_33 hl (k := 1) rfl (by decide) rfl (fun ls hl => ?_)
        refine lv_goto (tgt := 5) hx hb d_Opr_lowerTerms_36 (by decide) ?_
        exact ih_5 (i + 1) (sum + ((f i) * (slr y (k - i)))) (by omega) (by rw [hsum]; exact suM_step (fun i => f i * slr y (k - i)) (by omega)) (by omega) ls (lv_sub hl [0, 1, 2, 3, 4] rfl)
  exact loop_5 4 0 0 (by omega) rfl (by omega) ls (lv_sub hl [0, 1, 2, 3, 4] rfl)

set_option maxHeartbeats 4000000 in
set_option maxRecDepth 100000 in
/-- Operator.allTerms(y, k) -/
theorem c_allTerms (l : Launch) (dC : Nat → ClassId) (dI : Nat → Nat → Nat) (cA : ClassId) (o F fa Z za h a n : Nat) (f g y : Int → Int) (hn : (n : Int) ≤ 41) (hf : RoW 3 f) (hg : RoW 5 g) (hy : RoW n y) (k : Int) (hk : -90 ≤ k ∧ k ≤ 90) : Met l y_Opr_allTerms w_Opr_allTerms ({ frames := 2, cells := 0, slots := 0, locals := 47 }) (va_Pc [.ref o, .ref h, .int (iZ (k))] (wR (dC, dI) vC [(cA, .int)] [(o, .inr (1, [.ref F, .ref Z])), (F, .inr (0, [.ref fa])), (fa, .inl (cA, 3, .inl (aR f))), (Z, .inr (0, [.ref za])), (za, .inl (cA, 5, .inl (aR g))), (h, .inr (0, [.ref a])), (a, .inl (cA, n, .inl (aR y)))])) (vp_Si (fun r => r = iZ (alz f g y k))) 0 0 (fun _ => False) := by
  refine Met.ofW (cc := b_Opr_allTerms) (maxL := 3) (ret := (Option.some Jvm.ClassFile.FieldType.int)) (by decide) rfl ?_
  intro p e s m args below meth c s₁ B hml hv
  obtain ⟨rfl, hP, hK⟩ := hv
  have hx := B.exec
  have hb := B.bytes
  have hr := B.returns
  have hts : ∀ w ∈ tT, w.before _ s = true := fun w h => atoms_spec (ws := w_Opr_allTerms) B.pre w (List.mem_cons_of_mem _ h)
  have hown : s.vm.findClass "OrderTwoCases$Operator" = some m.cls := findClass_of_methodNamed B.named
  have hlocks := B.notSynchronized
  have hl := lv_entry ([.ref o, .ref h, .int (iZ (k))]) (n := 3) (Nat.le_of_ble_eq_true rfl)
  rw [lg_entry_eq]
  generalize (lg_sl ([.ref o, .ref h, .int (iZ (k))]) ++ List.replicate (3 - (lg_sl ([.ref o, .ref h, .int (iZ (k))])).length) Slot.unset).toArray = ls at hl ⊢
  have hl : lv_has ls 3 [(0, .ref o), (1, .ref h), (2, .int (iZ (k)))] := hl
  refine lv_iload_n hx hb d_Opr_allTerms_0 rfl (lv_at hl 2 rfl) ?_
  refine z_i2l hx hb d_Opr_allTerms_1 (by omega) ?_
  refine lv_ldc2 (v := lZ (2)) hx hb hown (show (Jvm.Cond.constantLong "OrderTwoCases$Operator" 37 (lZ (2))).before _ s = true from hts _ k_249) d_Opr_allTerms_2 ?_
  refine z_ladd hx hb d_Opr_allTerms_5 ?_
  refine lv_iload_n hx hb d_Opr_allTerms_6 rfl (lv_at hl 2 rfl) ?_
  refine z_i2l hx hb d_Opr_allTerms_7 (by omega) ?_
  refine lv_lconst (v := lZ (1)) hx hb d_Opr_allTerms_8 (by decide +kernel) ?_
  refine z_ladd hx hb d_Opr_allTerms_9 ?_
  refine z_lmul hx hb d_Opr_allTerms_10 ?_
  refine lv_aload_n hx hb d_Opr_allTerms_11 rfl (lv_at hl 1 rfl) ?_
  refine lv_iload_n hx hb d_Opr_allTerms_12 rfl (lv_at hl 2 rfl) ?_
  refine lv_iconst (v := iZ (2)) hx hb d_Opr_allTerms_13 rfl ?_
  refine z_iadd hx hb d_Opr_allTerms_14 ?_
  refine w_rdi (va_runV (As := [.int (iZ (k + 2))]) (rest := [.long (lZ ((k + 2) * (k + 1)))]) ⟨hx, hb, hml, hown, hts⟩ (c_get l dC dI cA h a n y (by omega) hy (k + 2) (by omega)) (cwV 1 hts g_Opr_23 rfl rfl rfl (by decide +kernel) ⟨Nat.le_of_ble_eq_true rfl, Nat.le_of_ble_eq_true rfl⟩) (wR_preV hK hP [0] rfl [5, 6] rfl rfl rfl 5 rfl) rfl rfl hl.1 rfl (lv_room (Nat.le_of_ble_eq_true rfl)) d_Opr_allTerms_15 ⟨Nat.le_of_ble_eq_true rfl, Nat.le_of_ble_eq_true rfl⟩) ?_
  have hg_15 : 0 ≤ y (k + 2) ∧ y (k + 2) < 32003 := (hy).r (k + 2)
  refine z_i2l hx hb d_Opr_allTerms_18 (by omega) ?_
  refine z_lmul hx hb d_Opr_allTerms_19 ?_
  refine lv_aload_n hx hb d_Opr_allTerms_20 rfl (lv_at hl 0 rfl) ?_
  refine lv_aload_n hx hb d_Opr_allTerms_21 rfl (lv_at hl 1 rfl) ?_
  refine lv_iload_n hx hb d_Opr_allTerms_22 rfl (lv_at hl 2 rfl) ?_
  refine w_rdi (va_runV (As := [.ref h, .int (iZ (k))]) (rest := [.long (lZ (((k + 2) * (k + 1)) * (y (k + 2))))]) ⟨hx, hb, hml, hown, hts⟩ (c_lowerTerms l dC dI cA o F fa Z za h a n f g y (by omega) hf hg hy k (by omega)) (cwV 2 hts g_Opr_39 rfl rfl rfl (by decide +kernel) ⟨Nat.le_of_ble_eq_true rfl, Nat.le_of_ble_eq_true rfl⟩) (wR_preV hK hP [0] rfl [0, 1, 2, 3, 4, 5, 6] rfl rfl rfl 0 rfl) rfl rfl hl.1 rfl (lv_room (Nat.le_of_ble_eq_true rfl)) d_Opr_allTerms_23 ⟨Nat.le_of_ble_eq_true rfl, Nat.le_of_ble_eq_true rfl⟩) ?_
  have hg_23 : 0 ≤ lwz f g y k ∧ lwz f g y k < 32003 := md_r _
  refine z_i2l hx hb d_Opr_allTerms_26 (by omega) ?_
  refine z_ladd hx hb d_Opr_allTerms_27 ?_
  refine w_rdi (va_runS (As := [.long (lZ ((((k + 2) * (k + 1)) * (y (k + 2))) + (lwz f g y k)))]) (rest := []) ⟨hx, hb, hml, hown, hts⟩ (c_of l ((((k + 2) * (k + 1)) * (y (k + 2))) + (lwz f g y k)) (by have := al_bd (k := k) (z := y (k + 2)) (by omega) (hy.r _); omega)) (va_cwS 1 hts g_Opr_31 rfl rfl rfl (by decide +kernel) ⟨Nat.le_of_ble_eq_true rfl, Nat.le_of_ble_eq_true rfl⟩) preEq rfl rfl hl.1 rfl (lv_room (Nat.le_of_ble_eq_true rfl)) d_Opr_allTerms_28 ⟨Nat.le_of_ble_eq_true rfl, Nat.le_of_ble_eq_true rfl⟩) ?_
  exact w_reti hx hb hr hlocks rfl d_Opr_allTerms_31
