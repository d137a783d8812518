/-! LONGS: arrays of longs by a function on Int; compares; calls that answer a long. -/
def aL (f : Int → Int) : Nat → Int64 := fun j => lZ (f (j : Int))
theorem aL_at (f : Int → Int) {k : Int} (h : 0 ≤ k) (h2 : k < 2147483648) : aL f (iZ k).toNatClampNeg = lZ (f k) := by
  rw [iZ_clamp h h2]
  show lZ (f ((k.toNat : Nat) : Int)) = lZ (f k)
  rw [Int.toNat_of_nonneg h]
theorem aL_sT (f : Int → Int) {k : Int} (x : Int) (h : 0 ≤ k) (h2 : k < 2147483648) : vp_updL (aL f) (iZ k).toNatClampNeg (lZ x) = aL (sT f k x) := by
  rw [iZ_clamp h h2]
  funext j
  show vp_updL (aL f) k.toNat (lZ x) j = lZ (sT f k x (j : Int))
  by_cases hj : j = k.toNat
  · subst hj
    rw [pk_uLs]
    show lZ x = lZ (if ((k.toNat : Nat) : Int) = k then x else f _)
    rw [Int.toNat_of_nonneg h, if_pos rfl]
  · rw [pk_uLn hj]
    show lZ (f (j : Int)) = lZ (if (j : Int) = k then x else f (j : Int))
    rw [if_neg (by omega)]
def cmz (x y : Int) : Int := if y < x then 1 else if x = y then 0 else -1
theorem cmz_s (x y : Int) : (x < y ∧ cmz x y = -1) ∨ (x = y ∧ cmz x y = 0) ∨ (y < x ∧ cmz x y = 1) := by
  unfold cmz
  by_cases h : y < x
  · rw [if_pos h]; exact Or.inr (Or.inr ⟨h, rfl⟩)
  · rw [if_neg h]
    by_cases e : x = y
    · rw [if_pos e]; exact Or.inr (Or.inl ⟨e, rfl⟩)
    · rw [if_neg e]; exact Or.inl ⟨by omega, rfl⟩
theorem cmz_l {x y : Int} (hx : -9223372036854775808 ≤ x ∧ x < 9223372036854775808) (hy : -9223372036854775808 ≤ y ∧ y < 9223372036854775808) : lg_cmp (lZ x) (lZ y) = iZ (cmz x y) := by
  unfold lg_cmp cmz
  by_cases h : y < x
  · rw [if_pos h, if_pos ((lZ_lt hy hx).mpr h)]; rfl
  · rw [if_neg h, if_neg (fun q => h ((lZ_lt hy hx).mp q))]
    by_cases e : x = y
    · rw [if_pos e, if_pos (by rw [e])]; rfl
    · rw [if_neg e, if_neg (fun q => e ((lZ_eq hx hy).mp q))]; rfl
theorem arrV_congr {cA : ClassId} {n : Nat} {f g : Nat → Value} (h : ∀ j, j < n → f j = g j) : arrV cA n f = arrV cA n g := by
  unfold arrV
  congr 1
  apply Array.ext
  · simp
  · intro i h1 h2
    simp at h1 h2 ⊢
    exact h i (by omega)
section LL
variable {p : Program} {l : Launch} {e : Env} {R : Room} {s : State} {m : MethodId} {args : Array Value} {below : List Frame} {meth : Method} {c : Code} {H : Heap} {locs : List Loc} {cells slots : Nat} {Q : State → Prop}
variable {cc : ByteArray} {pc : Nat} {ls : Array Slot} {rest st0 : List Value} {a : Array Value} {A : Nat → Prop} {H0 : Heap} {D : va_G} {cl : List vw_C} {tys : List (ClassId × FieldType)} {ws : va_W} {b : Addr}
theorem z_lcmp (hexec : p.tables.exec = Jvm.exec) (hb : c.code = cc) {x y : Int} (hdg : decode cc pc = .ok (.lcmp, 1)) (hx : -9223372036854775808 ≤ x ∧ x < 9223372036854775808) (hy : -9223372036854775808 ≤ y ∧ y < 9223372036854775808) (k : W p l e R s m args below meth c H locs cells slots Q (F0 m (pc + 1) ls (.int (iZ (cmz x y)) :: rest))) : W p l e R s m args below meth c H locs cells slots Q (F0 m pc ls (.long (lZ y) :: .long (lZ x) :: rest)) := W.lcmp hexec hb hdg (by rw [cmz_l hx hy]; exact k)
theorem z_lald (hexec : p.tables.exec = Jvm.exec) (hb : c.code = cc) (hK : va_K D cl tys s) (hP : va_P D cl ws H) (q0 t0 : Nat) {cJ : ClassId} {n : Nat} {f : Int → Int} (ha : ws[q0]? = some (b, .inl (cJ, n, .inr (.inl (aL f))))) (ht : tys[t0]? = some (cJ, .long)) {k : Int} (h0 : 0 ≤ k) (h1 : k < (n : Int)) (hn : (n : Int) < 2147483648) (hdg : decode cc pc = .ok (.laload, 1)) (kk : W p l e R s m args below meth c H locs cells slots Q (F0 m (pc + 1) ls (.long (lZ (f k)) :: rest))) : W p l e R s m args below meth c H locs cells slots Q (F0 m pc ls (.int (iZ k) :: .ref b :: rest)) :=
  va_lald hexec hb hK hP q0 t0 ha ht (iZ_in h0 h1 hn) hdg (by rw [aL_at f h0 (by omega)]; exact kk)
theorem z_last (hexec : p.tables.exec = Jvm.exec) (hb : c.code = cc) (hK : va_K D cl tys s) (hP : va_P D cl ws H) (hD : va_D A ws) (hS : va_S A H0 H locs) (q0 t0 : Nat) {cJ : ClassId} {n : Nat} {f : Int → Int} (ha : ws[q0]? = some (b, .inl (cJ, n, .inr (.inl (aL f))))) (ht : tys[t0]? = some (cJ, .long)) {k x : Int} (h0 : 0 ≤ k) (h1 : k < (n : Int)) (hn : (n : Int) < 2147483648) (hdg : decode cc pc = .ok (.lastore, 1)) {wf : va_W} (hw : ws.set q0 (b, .inl (cJ, n, .inr (.inl (aL (sT f k x))))) = wf) (kk : ∀ (H1 : Heap) (locs1 : List Loc), va_P D cl wf H1 → va_D A wf → va_S A H0 H1 locs1 → W p l e R s m args below meth c H1 locs1 cells slots Q (F0 m (pc + 1) ls rest)) : W p l e R s m args below meth c H locs cells slots Q (F0 m pc ls (.long (lZ x) :: .int (iZ k) :: .ref b :: rest)) := by
  refine va_last hexec hb hK hP hD hS q0 t0 ha ht (iZ_in h0 h1 hn) hdg (fun H1 locs1 hP1 hD1 hS1 => ?_)
  rw [aL_sT f x h0 (by omega), hw] at hP1 hD1
  exact kk H1 locs1 hP1 hD1 hS1
theorem z_newl (hexec : p.tables.exec = Jvm.exec) (hb : c.code = cc) (harr : (Cond.arrayClass .long).before args s = true) (hK : va_K D cl tys s) (t0 : Nat) {cJ : ClassId} (ht : tys[t0]? = some (cJ, .long)) (hP : va_P D cl ws H) (hD : va_D A ws) (hS : va_S A H0 H locs) (hA : ∀ q, H0.size ≤ q → A q)
    {n : Int} {N : Nat} (hn : n = (N : Int)) (hN : N ≤ 65536) (hcells : cells + 1 ≤ R.cells) (hslots : slots + N ≤ R.slots) (hdg : decode cc pc = .ok (.newarray .long, 2))
    (kk : ∀ (q : Nat) (H1 : Heap), va_P D cl (ws ++ [(q, .inl (cJ, N, .inr (.inl (aL (fun _ => 0)))))]) H1 → va_D A (ws ++ [(q, .inl (cJ, N, .inr (.inl (aL (fun _ => 0)))))]) → va_S A H0 H1 locs → W p l e R s m args below meth c H1 locs (cells + 1) (slots + N) Q (F0 m (pc + 2) ls (.ref q :: rest))) : W p l e R s m args below meth c H locs cells slots Q (F0 m pc ls (.int (iZ n) :: rest)) := by
  subst hn
  refine va_newa (atype := .long) (ty := .long) (N' := N) (a0 := (N, .inr (.inl (aL (fun _ => 0))))) hexec hb harr rfl hK hP hD hS hA (fun _ => rfl) ?_ ?_ ?_ hcells hslots hdg (fun q cA' H1 hK1 hP1 hD1 hS1 => ?_)
  · intro h
    have := (iZ_lt (a := (N : Int)) (b := 0) (by omega) (by omega)).mp h
    omega
  · rw [iZ_clamp (by omega) (by omega)]
    omega
  · show N * 8 ≤ 536870912
    omega
  · have e1 : s.vm.findClass ("[" ++ FieldType.long.toString) = some cJ := (hK.2 t0 _ ht).2
    have e2 : s.vm.findClass ("[" ++ FieldType.long.toString) = some cA' := (hK1.2 tys.length (cA', .long) (by simp)).2
    have e3 : cA' = cJ := Option.some.inj (e2.symm.trans e1)
    subst e3
    exact kk q H1 hP1 hD1 hS1
/-- the same cell, by another function that agrees where the array has places -/
theorem wfixL (hP : va_P D cl ws H) (hD : va_D A ws) (q0 : Nat) {cJ : ClassId} {n : Nat} {f : Int → Int} (ha : ws[q0]? = some (b, .inl (cJ, n, .inr (.inl (aL f))))) (f' : Int → Int) (h : ∀ k : Int, 0 ≤ k → k < (n : Int) → f k = f' k) {wf : va_W} (hw : ws.set q0 (b, .inl (cJ, n, .inr (.inl (aL f')))) = wf) : va_P D cl wf H ∧ va_D A wf := by
  subst hw
  refine ⟨hP.set hD ha ?_ (fun _ _ => rfl), hD.set ha⟩
  show H[b]? = some (vp_cell cJ (n, .inr (.inl (aL f'))))
  have h1 : H[b]? = some (vp_cell cJ (n, .inr (.inl (aL f)))) := hP q0 _ ha
  rw [h1, vp_cell_l, vp_cell_l]
  congr 1
  refine arrV_congr (fun j hj => ?_)
  show Value.long (lZ (f (j : Int))) = Value.long (lZ (f' (j : Int)))
  rw [h (j : Int) (by omega) (by omega)]
theorem wfixI (hP : va_P D cl ws H) (hD : va_D A ws) (q0 : Nat) {cJ : ClassId} {n : Nat} {f : Int → Int} (ha : ws[q0]? = some (b, .inl (cJ, n, .inl (aR f)))) (f' : Int → Int) (h : ∀ k : Int, 0 ≤ k → k < (n : Int) → f k = f' k) {wf : va_W} (hw : ws.set q0 (b, .inl (cJ, n, .inl (aR f'))) = wf) : va_P D cl wf H ∧ va_D A wf := by
  subst hw
  refine ⟨hP.set hD ha ?_ (fun _ _ => rfl), hD.set ha⟩
  show H[b]? = some (vp_cell cJ (n, .inl (aR f')))
  have h1 : H[b]? = some (vp_cell cJ (n, .inl (aR f))) := hP q0 _ ha
  rw [h1, vp_cell_i, vp_cell_i]
  congr 1
  refine arrV_congr (fun j hj => ?_)
  show Value.int (iZ (f (j : Int))) = Value.int (iZ (f' (j : Int)))
  rw [h (j : Int) (by omega) (by omega)]
end LL
