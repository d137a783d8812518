theorem td2 {n : Int} (h : 0 ≤ n) : n.tdiv 2 = n / 2 := Int.tdiv_eq_ediv_of_nonneg h
theorem rsz_e0 (k : Nat) : ∀ (q r : Int), rsz k 0 q r = r := by
  induction k with
  | zero => intro q r; rfl
  | succ k ih => intro q r; exact ih (md (q * q)) r
theorem kk_pos {n : Int} {kk : Nat} (h : ¬ n ≤ 0) (hk : n < 2 ^ kk) : ∃ k2, kk = k2 + 1 := by
  cases kk with
  | zero => exact absurd (show n < 1 from hk) (by omega)
  | succ k2 => exact ⟨k2, rfl⟩
theorem iv_4 : ivz 4 = 8001 := by decide +kernel
theorem iv_2 : ivz 2 = 16002 := by decide +kernel
set_option maxHeartbeats 4000000 in
set_option maxRecDepth 100000 in
/-- in(v, lo, hi) -/
theorem c_min (l : Launch) (v lo hi : Int) (hv : -9223372036854775808 ≤ v ∧ v < 9223372036854775808) (hlo : -9223372036854775808 ≤ lo ∧ lo < 9223372036854775808) (hhi : -9223372036854775808 ≤ hi ∧ hi < 9223372036854775808) : Met l y_Mod_in w_Mod_in ({ frames := 0, cells := 0, slots := 0, locals := 0 }) (fun a _ => a = ([.long (lZ (v)), .long (lZ (lo)), .long (lZ (hi))] : List Value).toArray) (vp_Si (fun r => r = iZ (if lo ≤ v ∧ v ≤ hi then 1 else 0))) 0 0 (fun _ => False) := by
  refine Met.ofW (cc := b_Mod_in) (maxL := 6) (ret := (Option.some Jvm.ClassFile.FieldType.boolean)) (by decide) rfl ?_
  intro p e s m args below meth c s₁ B hml hv
  obtain rfl := hv
  have hx := B.exec
  have hb := B.bytes
  have hr := B.returns
  have hts : ∀ w ∈ tT, w.before _ s = true := fun w h => atoms_spec (ws := w_Mod_in) B.pre w (List.mem_cons_of_mem _ h)
  have hown : s.vm.findClass "OrderTwoCasesModel" = some m.cls := findClass_of_methodNamed B.named
  have hlocks := B.notSynchronized
  have hl := lv_entry ([.long (lZ (v)), .long (lZ (lo)), .long (lZ (hi))]) (n := 6) (Nat.le_of_ble_eq_true rfl)
  rw [lg_entry_eq]
  generalize (lg_sl ([.long (lZ (v)), .long (lZ (lo)), .long (lZ (hi))]) ++ List.replicate (6 - (lg_sl ([.long (lZ (v)), .long (lZ (lo)), .long (lZ (hi))])).length) Slot.unset).toArray = ls at hl ⊢
  have hl : lv_has ls 6 [(0, .long (lZ (v))), (2, .long (lZ (lo))), (4, .long (lZ (hi)))] := hl
  refine lv_lload_n hx hb d_Mod_in_0 rfl (lv_at hl 0 rfl) ?_
  refine lv_lload_n hx hb d_Mod_in_1 rfl (lv_at hl 1 rfl) ?_
  refine z_lcmp hx hb d_Mod_in_2 (by omega) (by omega) ?_
  have hcm_2 := cmz_s v lo
  refine z_if_lt (tgt := 17) hx hb d_Mod_in_3 (by decide) (by omega) (fun c_3 => ?_) (fun c_3 => ?_)
  · refine lv_iconst (v := iZ (0)) hx hb d_Mod_in_17 rfl ?_
    exact w_retz hx hb hr rfl hlocks (by rw [if_neg (by omega)]) d_Mod_in_18
  · refine lv_lload_n hx hb d_Mod_in_6 rfl (lv_at hl 0 rfl) ?_
    refine lv_lload hx hb d_Mod_in_7 (lv_at hl 2 rfl) ?_
    refine z_lcmp hx hb d_Mod_in_9 (by omega) (by omega) ?_
    have hcm_9 := cmz_s v hi
    refine z_if_gt (tgt := 17) hx hb d_Mod_in_10 (by decide) (by omega) (fun c_10 => ?_) (fun c_10 => ?_)
    · refine lv_iconst (v := iZ (0)) hx hb d_Mod_in_17 rfl ?_
      exact w_retz hx hb hr rfl hlocks (by rw [if_neg (by omega)]) d_Mod_in_18
    · refine lv_iconst (v := iZ (1)) hx hb d_Mod_in_13 rfl ?_
      refine lv_goto (tgt := 18) hx hb d_Mod_in_14 (by decide) ?_
      exact w_retz hx hb hr rfl hlocks (by rw [if_pos (by omega)]) d_Mod_in_18

set_option maxHeartbeats 4000000 in
set_option maxRecDepth 100000 in
/-- modulo(v) -/
theorem c_modulo (l : Launch) (v : Int) (hv : -9223372036854775808 ≤ v ∧ v < 9223372036854775808) : Met l y_Mod_modulo w_Mod_modulo ({ frames := 0, cells := 0, slots := 0, locals := 0 }) (fun a _ => a = ([.long (lZ (v))] : List Value).toArray) (vp_Sl (fun r => r = lZ (md v))) 0 0 (fun _ => False) := by
  refine Met.ofW (cc := b_Mod_modulo) (maxL := 4) (ret := (Option.some Jvm.ClassFile.FieldType.long)) (by decide) rfl ?_
  intro p e s m args below meth c s₁ B hml hv
  obtain rfl := hv
  have hx := B.exec
  have hb := B.bytes
  have hr := B.returns
  have hts : ∀ w ∈ tT, w.before _ s = true := fun w h => atoms_spec (ws := w_Mod_modulo) B.pre w (List.mem_cons_of_mem _ h)
  have hown : s.vm.findClass "OrderTwoCasesModel" = some m.cls := findClass_of_methodNamed B.named
  have hlocks := B.notSynchronized
  have hl := lv_entry ([.long (lZ (v))]) (n := 4) (Nat.le_of_ble_eq_true rfl)
  rw [lg_entry_eq]
  generalize (lg_sl ([.long (lZ (v))]) ++ List.replicate (4 - (lg_sl ([.long (lZ (v))])).length) Slot.unset).toArray = ls at hl ⊢
  have hl : lv_has ls 4 [(0, .long (lZ (v)))] := hl
  refine lv_lload_n hx hb d_Mod_modulo_0 rfl (lv_at hl 0 rfl) ?_
  refine lv_ldc2 (v := lZ (32003)) hx hb hown (show (Jvm.Cond.constantLong "OrderTwoCasesModel" 51 (lZ (32003))).before _ s = true from hts _ k_527) d_Mod_modulo_1 ?_
  refine z_lrem hx hb d_Mod_modulo_4 hv (by decide) (by decide) ?_
  refine lv_lstore_n (lv' := [(2, .long (lZ (Int.tmod v 32003))), (0, .long (lZ (v)))]) hx hb d_Mod_modulo_5 rfl hl (by decide) rfl (fun ls hl => ?_)
  have ht := tm_bd v
  refine lv_lload_n hx hb d_Mod_modulo_6 rfl (lv_at hl 0 rfl) ?_
  refine lv_lconst (v := lZ (0)) hx hb d_Mod_modulo_7 (by decide +kernel) ?_
  refine z_lcmp hx hb d_Mod_modulo_8 (by omega) (by omega) ?_
  have hcm_8 := cmz_s (Int.tmod v 32003) 0
  refine z_if_ge (tgt := 20) hx hb d_Mod_modulo_9 (by decide) (by omega) (fun c_9 => ?_) (fun c_9 => ?_)
  · refine lv_lload_n hx hb d_Mod_modulo_20 rfl (lv_at hl 0 rfl) ?_
    exact w_retl hx hb hr hlocks (congrArg lZ (tm_pos (by omega))) d_Mod_modulo_21
  · refine lv_lload_n hx hb d_Mod_modulo_12 rfl (lv_at hl 0 rfl) ?_
    refine lv_ldc2 (v := lZ (32003)) hx hb hown (show (Jvm.Cond.constantLong "OrderTwoCasesModel" 51 (lZ (32003))).before _ s = true from hts _ k_527) d_Mod_modulo_13 ?_
    refine z_ladd hx hb d_Mod_modulo_16 ?_
    refine lv_goto (tgt := 21) hx hb d_Mod_modulo_17 (by decide) ?_
    exact w_retl hx hb hr hlocks (congrArg lZ (tm_neg (by omega))) d_Mod_modulo_21

set_option maxHeartbeats 4000000 in
set_option maxRecDepth 100000 in
/-- inverse(v) -/
theorem c_minverse (l : Launch) (v : Int) (hv : 0 ≤ v ∧ v < 32003) : Met l y_Mod_inverse w_Mod_inverse ({ frames := 0, cells := 0, slots := 0, locals := 0 }) (fun a _ => a = ([.long (lZ (v))] : List Value).toArray) (vp_Sl (fun r => r = lZ (ivz v))) 0 0 (fun _ => False) := by
  refine Met.ofW (cc := b_Mod_inverse) (maxL := 7) (ret := (Option.some Jvm.ClassFile.FieldType.long)) (by decide) rfl ?_
  intro p e s m args below meth c s₁ B hml hv
  obtain rfl := hv
  have hx := B.exec
  have hb := B.bytes
  have hr := B.returns
  have hts : ∀ w ∈ tT, w.before _ s = true := fun w h => atoms_spec (ws := w_Mod_inverse) B.pre w (List.mem_cons_of_mem _ h)
  have hown : s.vm.findClass "OrderTwoCasesModel" = some m.cls := findClass_of_methodNamed B.named
  have hlocks := B.notSynchronized
  have hl := lv_entry ([.long (lZ (v))]) (n := 7) (Nat.le_of_ble_eq_true rfl)
  rw [lg_entry_eq]
  generalize (lg_sl ([.long (lZ (v))]) ++ List.replicate (7 - (lg_sl ([.long (lZ (v))])).length) Slot.unset).toArray = ls at hl ⊢
  have hl : lv_has ls 7 [(0, .long (lZ (v)))] := hl
  refine lv_lconst (v := lZ (1)) hx hb d_Mod_inverse_0 (by decide +kernel) ?_
  refine lv_lstore_n (lv' := [(2, .long (lZ (1))), (0, .long (lZ (v)))]) hx hb d_Mod_inverse_1 rfl hl (by decide) rfl (fun ls hl => ?_)
  refine lv_lload_n hx hb d_Mod_inverse_2 rfl (lv_at hl 1 rfl) ?_
  refine lv_lstore (lv' := [(4, .long (lZ (v))), (2, .long (lZ (1))), (0, .long (lZ (v)))]) hx hb d_Mod_inverse_3 hl (by decide) rfl (fun ls hl => ?_)
  refine lv_sipush (v := iZ (32001)) hx hb d_Mod_inverse_5 (by decide +kernel) ?_
  refine lv_istore (lv' := [(6, .int (iZ (32001))), (4, .long (lZ (v))), (2, .long (lZ (1))), (0, .long (lZ (v)))]) hx hb d_Mod_inverse_8 hl (by decide) rfl (fun ls hl => ?_)
  have loop_10 : ∀ (m_10 : Nat) (n : Int) (q : Int) (r : Int) (kk : Nat) (hn : 0 ≤ n ∧ n ≤ 32001) (hq : 0 ≤ q ∧ q < 32003) (hr9 : 0 ≤ r ∧ r < 32003) (hkk : n < 2 ^ kk) (hinv : rsz kk n q r = ivz v) (hmeas : n < (m_10 : Int)) (ls : Array Slot) (hl : lv_has ls 7 [(6, .int (iZ (n))), (4, .long (lZ (q))), (2, .long (lZ (r))), (0, .long (lZ (v)))]), W p l e ({ frames := 0, cells := 0, slots := 0, locals := 0 } : Room) s m ([.long (lZ (v))] : List Value).toArray below meth c s.heap [] 0 0 (MQ below (vp_Sl (fun r => r = lZ (ivz v))) ([.long (lZ (v))] : List Value).toArray s 0 0 (fun _ => False)) (F0 m 10 ls []) := by
    intro m_10
    induction m_10 with
    | zero =>
      intro n q r kk hn hq hr9 hkk hinv hmeas
      exfalso; omega
    | succ m_10 ih_10 =>
      intro n q r kk hn hq hr9 hkk hinv hmeas ls hl
      refine lv_iload hx hb d_Mod_inverse_10 (lv_at hl 0 rfl) ?_
      refine z_if_le (tgt := 56) hx hb d_Mod_inverse_12 (by decide) (by omega) (fun c_12 => ?_) (fun c_12 => ?_)
      · refine lv_lload_n hx hb d_Mod_inverse_56 rfl (lv_at hl 2 rfl) ?_
        exact w_retl hx hb hr hlocks (by rw [← hinv, show n = 0 by omega, rsz_e0]) d_Mod_inverse_57
      · refine lv_iload hx hb d_Mod_inverse_15 (lv_at hl 0 rfl) ?_
        refine lv_iconst (v := iZ (2)) hx hb d_Mod_inverse_17 rfl ?_
        refine z_irem hx hb d_Mod_inverse_18 (by omega) (by decide) (by decide) ?_
        refine lv_iconst (v := iZ (1)) hx hb d_Mod_inverse_19 rfl ?_
        refine z_icmp_ne (tgt := 34) hx hb d_Mod_inverse_20 (by decide) (by rw [tm2 (by omega)]; omega) (by decide) (fun c_20 => ?_) (fun c_20 => ?_)
        · refine lv_lload_n hx hb d_Mod_inverse_34 rfl (lv_at hl 2 rfl) ?_
          refine lv_lstore_n (lv' := [(2, .long (lZ (r))), (6, .int (iZ (n))), (4, .long (lZ (q))), (0, .long (lZ (v)))]) hx hb d_Mod_inverse_35 rfl hl (by decide) rfl (fun ls hl => ?_)
          refine lv_lload hx hb d_Mod_inverse_36 (lv_at hl 2 rfl) ?_
          refine lv_lload hx hb d_Mod_inverse_38 (lv_at hl 2 rfl) ?_
          refine z_lmul hx hb d_Mod_inverse_40 ?_
          refine lv_ldc2 (v := lZ (32003)) hx hb hown (show (Jvm.Cond.constantLong "OrderTwoCasesModel" 51 (lZ (32003))).before _ s = true from hts _ k_527) d_Mod_inverse_41 ?_
          refine z_lremmd hx hb d_Mod_inverse_44 (by have := mul_bd hq hq; omega) ?_
          refine lv_lstore (lv' := [(4, .long (lZ (md (q * q)))), (2, .long (lZ (r))), (6, .int (iZ (n))), (0, .long (lZ (v)))]) hx hb d_Mod_inverse_45 hl (by decide) rfl (fun ls hl => ?_)
          refine lv_iload hx hb d_Mod_inverse_47 (lv_at hl 2 rfl) ?_
          refine lv_iconst (v := iZ (2)) hx hb d_Mod_inverse_49 rfl ?_
          refine z_idiv hx hb d_Mod_inverse_50 (by omega) (by decide) (by decide) ?_
          refine lv_istore (lv' := [(6, .int (iZ (Int.tdiv n 2))), (4, .long (lZ (md (q * q)))), (2, .long (lZ (r))), (0, .long (lZ (v)))]) hx hb d_Mod_inverse_51 hl (by decide) rfl (fun ls hl => ?_)
          refine lv_goto (tgt := 10) hx hb d_Mod_inverse_53 (by decide) ?_
          obtain ⟨k2, rfl⟩ := kk_pos c_12 hkk
          have htd : n.tdiv 2 = n / 2 := td2 (by omega)
          exact ih_10 (Int.tdiv n 2) (md (q * q)) r k2 (by rw [td2 (by omega)]; omega) (md_r _) hr9 (by rw [td2 (by omega)]; rw [Int.pow_succ] at hkk; omega) (by rw [td2 (by omega), ← hinv]; show _ = rsz k2 (n / 2) (md (q * q)) (if n % 2 = 1 then md (r * q) else r); rw [if_neg (by rw [tm2 (by omega)] at c_20; exact c_20)]) (by omega) ls (lv_sub hl [0, 1, 2, 3] rfl)
        · refine lv_lload_n hx hb d_Mod_inverse_23 rfl (lv_at hl 2 rfl) ?_
          refine lv_lload hx hb d_Mod_inverse_24 (lv_at hl 1 rfl) ?_
          refine z_lmul hx hb d_Mod_inverse_26 ?_
          refine lv_ldc2 (v := lZ (32003)) hx hb hown (show (Jvm.Cond.constantLong "OrderTwoCasesModel" 51 (lZ (32003))).before _ s = true from hts _ k_527) d_Mod_inverse_27 ?_
          refine z_lremmd hx hb d_Mod_inverse_30 (by have := mul_bd hr9 hq; omega) ?_
          refine lv_goto (tgt := 35) hx hb d_Mod_inverse_31 (by decide) ?_
          refine lv_lstore_n (lv' := [(2, .long (lZ (md (r * q)))), (6, .int (iZ (n))), (4, .long (lZ (q))), (0, .long (lZ (v)))]) hx hb d_Mod_inverse_35 rfl hl (by decide) rfl (fun ls hl => ?_)
          refine lv_lload hx hb d_Mod_inverse_36 (lv_at hl 2 rfl) ?_
          refine lv_lload hx hb d_Mod_inverse_38 (lv_at hl 2 rfl) ?_
          refine z_lmul hx hb d_Mod_inverse_40 ?_
          refine lv_ldc2 (v := lZ (32003)) hx hb hown (show (Jvm.Cond.constantLong "OrderTwoCasesModel" 51 (lZ (32003))).before _ s = true from hts _ k_527) d_Mod_inverse_41 ?_
          refine z_lremmd hx hb d_Mod_inverse_44 (by have := mul_bd hq hq; omega) ?_
          refine lv_lstore (lv' := [(4, .long (lZ (md (q * q)))), (2, .long (lZ (md (r * q)))), (6, .int (iZ (n))), (0, .long (lZ (v)))]) hx hb d_Mod_inverse_45 hl (by decide) rfl (fun ls hl => ?_)
          refine lv_iload hx hb d_Mod_inverse_47 (lv_at hl 2 rfl) ?_
          refine lv_iconst (v := iZ (2)) hx hb d_Mod_inverse_49 rfl ?_
          refine z_idiv hx hb d_Mod_inverse_50 (by omega) (by decide) (by decide) ?_
          refine lv_istore (lv' := [(6, .int (iZ (Int.tdiv n 2))), (4, .long (lZ (md (q * q)))), (2, .long (lZ (md (r * q)))), (0, .long (lZ (v)))]) hx hb d_Mod_inverse_51 hl (by decide) rfl (fun ls hl => ?_)
          refine lv_goto (tgt := 10) hx hb d_Mod_inverse_53 (by decide) ?_
          obtain ⟨k2, rfl⟩ := kk_pos c_12 hkk
          have htd : n.tdiv 2 = n / 2 := td2 (by omega)
          exact ih_10 (Int.tdiv n 2) (md (q * q)) (md (r * q)) k2 (by rw [td2 (by omega)]; omega) (md_r _) (md_r _) (by rw [td2 (by omega)]; rw [Int.pow_succ] at hkk; omega) (by rw [td2 (by omega), ← hinv]; show _ = rsz k2 (n / 2) (md (q * q)) (if n % 2 = 1 then md (r * q) else r); rw [if_pos (by rw [tm2 (by omega)] at c_20; exact c_20)]) (by omega) ls (lv_sub hl [0, 1, 2, 3] rfl)
  exact loop_10 32002 32001 v 1 15 (by omega) hv (by omega) (by decide) (by unfold ivz; rw [md_id hv]) (by omega) ls (lv_sub hl [0, 1, 2, 3] rfl)
/-! STATE of the reference: addresses ma 0 .. ma 12, f, g, and what else its cells hold -/
abbrev MS : Type := (Int → Int) × (Int → Int) × (Int → Int) × (Int → Int) × (Int → Int) × (Int → Int) × (Int → Int) × (Int → Int) × (Int → Int) × (Int → Int) × Int × Int × Int
abbrev mW (cA cJ : ClassId) (ma : Nat → Nat) (f g : Int → Int) (u : MS) : va_W := [((ma 0), .inr (5, [.int (iZ (u.2.2.2.2.2.2.2.2.2.2.1)), .ref ((ma 1)), .ref ((ma 2)), .ref ((ma 3)), .ref ((ma 4)), .ref ((ma 5)), .int (iZ (u.2.2.2.2.2.2.2.2.2.2.2.1)), .int (iZ (u.2.2.2.2.2.2.2.2.2.2.2.2)), .ref ((ma 6)), .ref ((ma 7)), .ref ((ma 8)), .ref ((ma 9)), .ref ((ma 10)), .ref ((ma 11)), .ref ((ma 12))])), ((ma 1), .inl (cA, 3, .inl (aR f))), ((ma 2), .inl (cA, 5, .inl (aR g))), ((ma 3), .inl (cJ, 5, .inr (.inl (aL u.1)))), ((ma 4), .inl (cJ, 3, .inr (.inl (aL u.2.1)))), ((ma 5), .inl (cJ, 5, .inr (.inl (aL u.2.2.1)))), ((ma 6), .inl (cA, 2, .inl (aR u.2.2.2.1))), ((ma 7), .inl (cJ, 26, .inr (.inl (aL u.2.2.2.2.1)))), ((ma 8), .inl (cJ, 6, .inr (.inl (aL u.2.2.2.2.2.1)))), ((ma 9), .inl (cJ, 20, .inr (.inl (aL u.2.2.2.2.2.2.1)))), ((ma 10), .inl (cJ, 13, .inr (.inl (aL u.2.2.2.2.2.2.2.1)))), ((ma 11), .inl (cJ, 41, .inr (.inl (aL u.2.2.2.2.2.2.2.2.1)))), ((ma 12), .inl (cA, 2, .inl (aR u.2.2.2.2.2.2.2.2.2.1)))]
