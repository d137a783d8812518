set_option maxHeartbeats 4000000 in
set_option maxRecDepth 100000 in
/-- Numbers.of(v): v modulo 32003 -/
theorem c_of (l : Launch) (v : Int) (hv : -9223372036854775808 ≤ v ∧ v < 9223372036854775808) : Met l y_Num_of w_Num_of ({ frames := 0, cells := 0, slots := 0, locals := 0 }) (fun a _ => a = ([.long (lZ (v))] : List Value).toArray) (vp_Si (fun r => r = iZ (md v))) 0 0 (fun _ => False) := by
  refine Met.ofW (cc := b_Num_of) (maxL := 3) (ret := (Option.some Jvm.ClassFile.FieldType.int)) (by decide) rfl ?_
  intro p e s m args below meth c s₁ B hml hv
  obtain rfl := hv
  have hx := B.exec
  have hb := B.bytes
  have hr := B.returns
  have hts : ∀ w ∈ tT, w.before _ s = true := fun w h => atoms_spec (ws := w_Num_of) B.pre w (List.mem_cons_of_mem _ h)
  have hown : s.vm.findClass "OrderTwoCases$Numbers" = some m.cls := findClass_of_methodNamed B.named
  have hlocks := B.notSynchronized
  have hl := lv_entry ([.long (lZ (v))]) (n := 3) (Nat.le_of_ble_eq_true rfl)
  rw [lg_entry_eq]
  generalize (lg_sl ([.long (lZ (v))]) ++ List.replicate (3 - (lg_sl ([.long (lZ (v))])).length) Slot.unset).toArray = ls at hl ⊢
  have hl : lv_has ls 3 [(0, .long (lZ (v)))] := hl
  refine lv_lload_n hx hb d_Num_of_0 rfl (lv_at hl 0 rfl) ?_
  refine lv_ldc2 (v := lZ (32003)) hx hb hown (show (Jvm.Cond.constantLong "OrderTwoCases$Numbers" 9 (lZ (32003))).before _ s = true from hts _ k_144) d_Num_of_1 ?_
  refine z_lrem hx hb d_Num_of_4 hv (by decide) (by decide) ?_
  refine z_l2i hx hb d_Num_of_5 ?_
  refine lv_istore_n (lv' := [(2, .int (iZ (Int.tmod v 32003))), (0, .long (lZ (v)))]) hx hb d_Num_of_6 rfl hl (by decide) rfl (fun ls hl => ?_)
  have ht := tm_bd v
  refine lv_iload_n hx hb d_Num_of_7 rfl (lv_at hl 0 rfl) ?_
  refine z_if_ge (tgt := 19) hx hb d_Num_of_8 (by decide) (by omega) (fun c_8 => ?_) (fun c_8 => ?_)
  · refine lv_iload_n hx hb d_Num_of_19 rfl (lv_at hl 0 rfl) ?_
    exact w_reti hx hb hr hlocks (congrArg iZ (tm_pos c_8)) d_Num_of_20
  · refine lv_iload_n hx hb d_Num_of_11 rfl (lv_at hl 0 rfl) ?_
    refine lv_sipush (v := iZ (32003)) hx hb d_Num_of_12 (by decide +kernel) ?_
    refine z_iadd hx hb d_Num_of_15 ?_
    refine lv_goto (tgt := 20) hx hb d_Num_of_16 (by decide) ?_
    exact w_reti hx hb hr hlocks (congrArg iZ (tm_neg c_8)) d_Num_of_20

set_option maxHeartbeats 4000000 in
set_option maxRecDepth 100000 in
/-- Numbers.raise(v, x) -/
theorem c_raise (l : Launch) (v x : Int) (hv : -2147483648 ≤ v ∧ v < 2147483648) (hx2 : 0 ≤ x ∧ x < 32768) : Met l y_Num_raise w_Num_raise ({ frames := 1, cells := 0, slots := 0, locals := 22 }) (fun a _ => a = ([.int (iZ (v)), .int (iZ (x))] : List Value).toArray) (vp_Si (fun r => r = iZ (rsz 15 x (md v) 1))) 0 0 (fun _ => False) := by
  refine Met.ofW (cc := b_Num_raise) (maxL := 7) (ret := (Option.some Jvm.ClassFile.FieldType.int)) (by decide) rfl ?_
  intro p e s m args below meth c s₁ B hml hv
  obtain rfl := hv
  have hx := B.exec
  have hb := B.bytes
  have hr := B.returns
  have hts : ∀ w ∈ tT, w.before _ s = true := fun w h => atoms_spec (ws := w_Num_raise) B.pre w (List.mem_cons_of_mem _ h)
  have hown : s.vm.findClass "OrderTwoCases$Numbers" = some m.cls := findClass_of_methodNamed B.named
  have hlocks := B.notSynchronized
  have hl := lv_entry ([.int (iZ (v)), .int (iZ (x))]) (n := 7) (Nat.le_of_ble_eq_true rfl)
  rw [lg_entry_eq]
  generalize (lg_sl ([.int (iZ (v)), .int (iZ (x))]) ++ List.replicate (7 - (lg_sl ([.int (iZ (v)), .int (iZ (x))])).length) Slot.unset).toArray = ls at hl ⊢
  have hl : lv_has ls 7 [(0, .int (iZ (v))), (1, .int (iZ (x)))] := hl
  refine lv_iload_n hx hb d_Num_raise_0 rfl (lv_at hl 0 rfl) ?_
  refine z_i2l hx hb d_Num_raise_1 hv ?_
  refine w_rdi (va_runS (As := [.long (lZ (v))]) (rest := []) ⟨hx, hb, hml, hown, hts⟩ (c_of l v (by omega)) (va_cwS 1 hts g_Num_11 rfl rfl rfl (by decide +kernel) ⟨Nat.le_of_ble_eq_true rfl, Nat.le_of_ble_eq_true rfl⟩) preEq rfl rfl hl.1 rfl (lv_room (Nat.le_of_ble_eq_true rfl)) d_Num_raise_2 ⟨Nat.le_of_ble_eq_true rfl, Nat.le_of_ble_eq_true rfl⟩) ?_
  refine z_i2l hx hb d_Num_raise_5 (by have := md_r v; omega) ?_
  refine lv_lstore_n (lv' := [(2, .long (lZ (md v))), (0, .int (iZ (v))), (1, .int (iZ (x)))]) hx hb d_Num_raise_6 rfl hl (by decide) rfl (fun ls hl => ?_)
  refine lv_lconst (v := lZ (1)) hx hb d_Num_raise_7 (by decide +kernel) ?_
  refine lv_lstore (lv' := [(4, .long (lZ (1))), (2, .long (lZ (md v))), (0, .int (iZ (v))), (1, .int (iZ (x)))]) hx hb d_Num_raise_8 hl (by decide) rfl (fun ls hl => ?_)
  refine lv_iconst (v := iZ (0)) hx hb d_Num_raise_10 rfl ?_
  refine lv_istore (lv' := [(6, .int (iZ (0))), (4, .long (lZ (1))), (2, .long (lZ (md v))), (0, .int (iZ (v))), (1, .int (iZ (x)))]) hx hb d_Num_raise_11 hl (by decide) rfl (fun ls hl => ?_)
  have loop_13 : ∀ (m_13 : Nat) (bit : Int) (sq : Int) (pr : Int) (hbit : 0 ≤ bit ∧ bit ≤ 15) (hsq : 0 ≤ sq ∧ sq < 32003) (hpr : 0 ≤ pr ∧ pr < 32003) (hinv : rsz (15 - bit).toNat (x / 2 ^ bit.toNat) sq pr = rsz 15 x (md v) 1) (hmeas : 15 - bit < (m_13 : Int)) (ls : Array Slot) (hl : lv_has ls 7 [(6, .int (iZ (bit))), (4, .long (lZ (pr))), (2, .long (lZ (sq))), (0, .int (iZ (v))), (1, .int (iZ (x)))]), W p l e ({ frames := 1, cells := 0, slots := 0, locals := 22 } : Room) s m ([.int (iZ (v)), .int (iZ (x))] : List Value).toArray below meth c s.heap [] 0 0 (MQ below (vp_Si (fun r => r = iZ (rsz 15 x (md v) 1))) ([.int (iZ (v)), .int (iZ (x))] : List Value).toArray s 0 0 (fun _ => False)) (F0 m 13 ls []) := by
    intro m_13
    induction m_13 with
    | zero =>
      intro bit sq pr hbit hsq hpr hinv hmeas
      exfalso; omega
    | succ m_13 ih_13 =>
      intro bit sq pr hbit hsq hpr hinv hmeas ls hl
      refine lv_iload hx hb d_Num_raise_13 (lv_at hl 0 rfl) ?_
      refine lv_bipush (v := iZ (15)) hx hb d_Num_raise_15 (by decide +kernel) ?_
      refine z_icmp_ge (tgt := 54) hx hb d_Num_raise_17 (by decide) (by omega) (by omega) (fun c_17 => ?_) (fun c_17 => ?_)
      · have hz : bit = 15 := by omega
        refine lv_lload hx hb d_Num_raise_54 (lv_at hl 1 rfl) ?_
        refine z_l2i hx hb d_Num_raise_56 ?_
        exact w_reti hx hb hr hlocks (by rw [← hinv, hz]; rfl) d_Num_raise_57
      · refine lv_iload_n hx hb d_Num_raise_20 rfl (lv_at hl 4 rfl) ?_
        refine lv_iload hx hb d_Num_raise_21 (lv_at hl 0 rfl) ?_
        refine lv_ishr hx hb d_Num_raise_23 ?_
        refine lv_iconst (v := iZ (1)) hx hb d_Num_raise_24 rfl ?_
        refine lv_iand hx hb d_Num_raise_25 ?_
        rw [bit_at hx2 (by omega)]
        refine lv_iconst (v := iZ (1)) hx hb d_Num_raise_26 rfl ?_
        refine z_icmp_ne (tgt := 40) hx hb d_Num_raise_27 (by decide) (by omega) (by decide) (fun c_27 => ?_) (fun c_27 => ?_)
        · refine lv_lload_n hx hb d_Num_raise_40 rfl (lv_at hl 2 rfl) ?_
          refine lv_lload_n hx hb d_Num_raise_41 rfl (lv_at hl 2 rfl) ?_
          refine z_lmul hx hb d_Num_raise_42 ?_
          refine lv_ldc2 (v := lZ (32003)) hx hb hown (show (Jvm.Cond.constantLong "OrderTwoCases$Numbers" 9 (lZ (32003))).before _ s = true from hts _ k_144) d_Num_raise_43 ?_
          refine z_lremmd hx hb d_Num_raise_46 (by have := mul_bd hsq hsq; omega) ?_
          refine lv_lstore_n (lv' := [(2, .long (lZ (md (sq * sq)))), (6, .int (iZ (bit))), (4, .long (lZ (pr))), (0, .int (iZ (v))), (1, .int (iZ (x)))]) hx hb d_Num_raise_47 rfl hl (by decide) rfl (fun ls hl => ?_)
          refine z_iinc (lv' := [(6, .int (iZ (bit + 1))), (2, .long (lZ (md (sq * sq)))), (4, .long (lZ (pr))), (0, .int (iZ (v))), (1, .int (iZ (x)))]) hx hb d_Num_raise_48 hl (k := 1) rfl (by decide) rfl (fun ls hl => ?_)
          refine lv_goto (tgt := 13) hx hb d_Num_raise_51 (by decide) ?_
          exact ih_13 (bit + 1) (md (sq * sq)) pr (by omega) (md_r _) hpr (by rw [← hinv, rsz_step x (b := bit) (sq := sq) (pr := pr) (by omega), if_neg c_27]) (by omega) ls (lv_sub hl [0, 2, 1, 3, 4] rfl)
        · refine lv_lload hx hb d_Num_raise_30 (lv_at hl 1 rfl) ?_
          refine lv_lload_n hx hb d_Num_raise_32 rfl (lv_at hl 2 rfl) ?_
          refine z_lmul hx hb d_Num_raise_33 ?_
          refine lv_ldc2 (v := lZ (32003)) hx hb hown (show (Jvm.Cond.constantLong "OrderTwoCases$Numbers" 9 (lZ (32003))).before _ s = true from hts _ k_144) d_Num_raise_34 ?_
          refine z_lremmd hx hb d_Num_raise_37 (by have := mul_bd hpr hsq; omega) ?_
          refine lv_lstore (lv' := [(4, .long (lZ (md (pr * sq)))), (6, .int (iZ (bit))), (2, .long (lZ (sq))), (0, .int (iZ (v))), (1, .int (iZ (x)))]) hx hb d_Num_raise_38 hl (by decide) rfl (fun ls hl => ?_)
          refine lv_lload_n hx hb d_Num_raise_40 rfl (lv_at hl 2 rfl) ?_
          refine lv_lload_n hx hb d_Num_raise_41 rfl (lv_at hl 2 rfl) ?_
          refine z_lmul hx hb d_Num_raise_42 ?_
          refine lv_ldc2 (v := lZ (32003)) hx hb hown (show (Jvm.Cond.constantLong "OrderTwoCases$Numbers" 9 (lZ (32003))).before _ s = true from hts _ k_144) d_Num_raise_43 ?_
          refine z_lremmd hx hb d_Num_raise_46 (by have := mul_bd hsq hsq; omega) ?_
          refine lv_lstore_n (lv' := [(2, .long (lZ (md (sq * sq)))), (4, .long (lZ (md (pr * sq)))), (6, .int (iZ (bit))), (0, .int (iZ (v))), (1, .int (iZ (x)))]) hx hb d_Num_raise_47 rfl hl (by decide) rfl (fun ls hl => ?_)
          refine z_iinc (lv' := [(6, .int (iZ (bit + 1))), (2, .long (lZ (md (sq * sq)))), (4, .long (lZ (md (pr * sq)))), (0, .int (iZ (v))), (1, .int (iZ (x)))]) hx hb d_Num_raise_48 hl (k := 2) rfl (by decide) rfl (fun ls hl => ?_)
          refine lv_goto (tgt := 13) hx hb d_Num_raise_51 (by decide) ?_
          exact ih_13 (bit + 1) (md (sq * sq)) (md (pr * sq)) (by omega) (md_r _) (md_r _) (by rw [← hinv, rsz_step x (b := bit) (sq := sq) (pr := pr) (by omega), if_pos c_27]) (by omega) ls (lv_sub hl [0, 2, 1, 3, 4] rfl)
  exact loop_13 16 0 (md v) 1 (by omega) (md_r v) (by omega) (by simp) (by omega) ls (lv_sub hl [0, 1, 2, 3, 4] rfl)

set_option maxHeartbeats 4000000 in
set_option maxRecDepth 100000 in
/-- Numbers.inverse(v) -/
theorem c_inverse (l : Launch) (v : Int) (hv : -2147483648 ≤ v ∧ v < 2147483648) : Met l y_Num_inverse w_Num_inverse ({ frames := 2, cells := 0, slots := 0, locals := 48 }) (fun a _ => a = ([.int (iZ (v))] : List Value).toArray) (vp_Si (fun r => r = iZ (ivz v))) 0 0 (fun _ => False) := by
  refine Met.ofW (cc := b_Num_inverse) (maxL := 1) (ret := (Option.some Jvm.ClassFile.FieldType.int)) (by decide) rfl ?_
  intro p e s m args below meth c s₁ B hml hv
  obtain rfl := hv
  have hx := B.exec
  have hb := B.bytes
  have hr := B.returns
  have hts : ∀ w ∈ tT, w.before _ s = true := fun w h => atoms_spec (ws := w_Num_inverse) B.pre w (List.mem_cons_of_mem _ h)
  have hown : s.vm.findClass "OrderTwoCases$Numbers" = some m.cls := findClass_of_methodNamed B.named
  have hlocks := B.notSynchronized
  have hl := lv_entry ([.int (iZ (v))]) (n := 1) (Nat.le_of_ble_eq_true rfl)
  rw [lg_entry_eq]
  generalize (lg_sl ([.int (iZ (v))]) ++ List.replicate (1 - (lg_sl ([.int (iZ (v))])).length) Slot.unset).toArray = ls at hl ⊢
  have hl : lv_has ls 1 [(0, .int (iZ (v)))] := hl
  refine lv_iload_n hx hb d_Num_inverse_0 rfl (lv_at hl 0 rfl) ?_
  refine lv_sipush (v := iZ (32001)) hx hb d_Num_inverse_1 (by decide +kernel) ?_
  refine w_rdi (va_runS (As := [.int (iZ (v)), .int (iZ (32001))]) (rest := []) ⟨hx, hb, hml, hown, hts⟩ (c_raise l v 32001 hv (by decide)) (va_cwS 2 hts g_Num_17 rfl rfl rfl (by decide +kernel) ⟨Nat.le_of_ble_eq_true rfl, Nat.le_of_ble_eq_true rfl⟩) preEq rfl rfl hl.1 rfl (lv_room (Nat.le_of_ble_eq_true rfl)) d_Num_inverse_4 ⟨Nat.le_of_ble_eq_true rfl, Nat.le_of_ble_eq_true rfl⟩) ?_
  exact w_reti hx hb hr hlocks rfl d_Num_inverse_7

set_option maxHeartbeats 4000000 in
set_option maxRecDepth 100000 in
/-- Numbers.lessRoot(v) -/
theorem c_lessRoot (l : Launch) (v : Int) (hv : 0 ≤ v ∧ v < 32003) : Met l y_Num_lessRoot w_Num_lessRoot ({ frames := 2, cells := 0, slots := 0, locals := 48 }) (fun a _ => a = ([.int (iZ (v))] : List Value).toArray) (vp_Si (fun r => r = iZ (lrz v))) 0 0 (fun _ => False) := by
  refine Met.ofW (cc := b_Num_lessRoot) (maxL := 2) (ret := (Option.some Jvm.ClassFile.FieldType.int)) (by decide) rfl ?_
  intro p e s m args below meth c s₁ B hml hv
  obtain rfl := hv
  have hx := B.exec
  have hb := B.bytes
  have hr := B.returns
  have hts : ∀ w ∈ tT, w.before _ s = true := fun w h => atoms_spec (ws := w_Num_lessRoot) B.pre w (List.mem_cons_of_mem _ h)
  have hown : s.vm.findClass "OrderTwoCases$Numbers" = some m.cls := findClass_of_methodNamed B.named
  have hlocks := B.notSynchronized
  have hl := lv_entry ([.int (iZ (v))]) (n := 2) (Nat.le_of_ble_eq_true rfl)
  rw [lg_entry_eq]
  generalize (lg_sl ([.int (iZ (v))]) ++ List.replicate (2 - (lg_sl ([.int (iZ (v))])).length) Slot.unset).toArray = ls at hl ⊢
  have hl : lv_has ls 2 [(0, .int (iZ (v)))] := hl
  refine lv_iload_n hx hb d_Num_lessRoot_0 rfl (lv_at hl 0 rfl) ?_
  refine lv_sipush (v := iZ (8001)) hx hb d_Num_lessRoot_1 (by decide +kernel) ?_
  refine w_rdi (va_runS (As := [.int (iZ (v)), .int (iZ (8001))]) (rest := []) ⟨hx, hb, hml, hown, hts⟩ (c_raise l v 8001 (by omega) (by decide)) (va_cwS 2 hts g_Num_17 rfl rfl rfl (by decide +kernel) ⟨Nat.le_of_ble_eq_true rfl, Nat.le_of_ble_eq_true rfl⟩) preEq rfl rfl hl.1 rfl (lv_room (Nat.le_of_ble_eq_true rfl)) d_Num_lessRoot_4 ⟨Nat.le_of_ble_eq_true rfl, Nat.le_of_ble_eq_true rfl⟩) ?_
  have hrt := rtz_r v
  change W p l e _ s m _ below meth c _ _ _ _ _ (F0 m 7 ls [.int (iZ (rtz v))])
  refine lv_istore_n (lv' := [(1, .int (iZ (rtz v))), (0, .int (iZ (v)))]) hx hb d_Num_lessRoot_7 rfl hl (by decide) rfl (fun ls hl => ?_)
  refine lv_iload_n hx hb d_Num_lessRoot_8 rfl (lv_at hl 0 rfl) ?_
  refine z_i2l hx hb d_Num_lessRoot_9 (by omega) ?_
  refine lv_iload_n hx hb d_Num_lessRoot_10 rfl (lv_at hl 0 rfl) ?_
  refine z_i2l hx hb d_Num_lessRoot_11 (by omega) ?_
  refine z_lmul hx hb d_Num_lessRoot_12 ?_
  refine w_rdi (va_runS (As := [.long (lZ ((rtz v) * (rtz v)))]) (rest := []) ⟨hx, hb, hml, hown, hts⟩ (c_of l ((rtz v) * (rtz v)) (by have := mul_bd hrt hrt; omega)) (va_cwS 1 hts g_Num_11 rfl rfl rfl (by decide +kernel) ⟨Nat.le_of_ble_eq_true rfl, Nat.le_of_ble_eq_true rfl⟩) preEq rfl rfl hl.1 rfl (lv_room (Nat.le_of_ble_eq_true rfl)) d_Num_lessRoot_13 ⟨Nat.le_of_ble_eq_true rfl, Nat.le_of_ble_eq_true rfl⟩) ?_
  refine lv_iload_n hx hb d_Num_lessRoot_16 rfl (lv_at hl 1 rfl) ?_
  refine z_icmp_eq (tgt := 22) hx hb d_Num_lessRoot_17 (by decide) (by have := md_r (rtz v * rtz v); omega) (by omega) (fun c_17 => ?_) (fun c_17 => ?_)
  · refine lv_iload_n hx hb d_Num_lessRoot_22 rfl (lv_at hl 0 rfl) ?_
    refine lv_iload_n hx hb d_Num_lessRoot_23 rfl (lv_at hl 0 rfl) ?_
    refine z_ineg hx hb d_Num_lessRoot_24 ?_
    refine z_i2l hx hb d_Num_lessRoot_25 (by omega) ?_
    refine w_rdi (va_runS (As := [.long (lZ (-(rtz v)))]) (rest := [.int (iZ (rtz v))]) ⟨hx, hb, hml, hown, hts⟩ (c_of l (-(rtz v)) (by omega)) (va_cwS 1 hts g_Num_11 rfl rfl rfl (by decide +kernel) ⟨Nat.le_of_ble_eq_true rfl, Nat.le_of_ble_eq_true rfl⟩) preEq rfl rfl hl.1 rfl (lv_room (Nat.le_of_ble_eq_true rfl)) d_Num_lessRoot_26 ⟨Nat.le_of_ble_eq_true rfl, Nat.le_of_ble_eq_true rfl⟩) ?_
    refine va_mmin hx hb (by rw [hml]; exact hl.1.symm) hown (hts _ k_192) (hts _ k_193) (hts _ k_13) (hts _ k_194) (Nat.le_of_ble_eq_true rfl) (Nat.le_of_ble_eq_true rfl) (Nat.le_of_ble_eq_true rfl) (Nat.le_of_ble_eq_true rfl) d_Num_lessRoot_29 ?_
    have hv9 : (if iZ (md (-(rtz v))) < iZ (rtz v) then iZ (md (-(rtz v))) else iZ (rtz v)) = iZ (lrz v) := by
      unfold lrz
      rw [if_pos c_17]
      by_cases q : md (-rtz v) < rtz v
      · rw [if_pos ((iZ_lt (by have := md_r (-rtz v); omega) (by omega)).mpr q), if_pos q]
      · rw [if_neg (fun z => q ((iZ_lt (by have := md_r (-rtz v); omega) (by omega)).mp z)), if_neg q]
    exact w_reti hx hb hr hlocks hv9 d_Num_lessRoot_32
  · refine lv_iconst (v := iZ (-1)) hx hb d_Num_lessRoot_20 rfl ?_
    have hv9 : iZ (-1) = iZ (lrz v) := by unfold lrz; rw [if_neg c_17]
    exact w_reti hx hb hr hlocks hv9 d_Num_lessRoot_21
