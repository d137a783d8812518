/-! MATH 8: the reference's series; rows of ANSWERS; the reference's proves -/
theorem exR_snoc {f g : Int → Int} : ∀ (c : Nat) (k : Int) (y : Int → Int), exR f g (c + 1) k y = sT (exR f g c k y) (k + (c : Int) + 2) (md (-(lwz f g (exR f g c k y) (k + (c : Int))) * ivz ((k + (c : Int) + 2) * (k + (c : Int) + 1)))) := by
  intro c
  induction c with
  | zero =>
    intro k y
    show exR f g 0 (k + 1) _ = sT y (k + 0 + 2) (md (-(lwz f g y (k + 0)) * ivz ((k + 0 + 2) * (k + 0 + 1))))
    rw [Int.add_zero]
    rfl
  | succ c ih =>
    intro k y
    show exR f g (c + 1) (k + 1) _ = _
    rw [ih, show k + 1 + (c : Int) = k + ((c + 1 : Nat) : Int) by omega]
    rfl
theorem ser_step {f g y z : Int → Int} {n : Int} (hn : 2 ≤ n) (hy : ∀ j : Int, j < n → y j = exR f g (n - 2).toNat 0 z j) : ∀ j : Int, j < n + 1 → sT y n (md (md (-(lwz f g y (n - 2))) * ivz (n * (n - 1)))) j = exR f g (n + 1 - 2).toNat 0 z j := by
  intro j hj
  rw [show (n + 1 - 2).toNat = (n - 2).toNat + 1 by omega, exR_snoc, show (0 : Int) + ((n - 2).toNat : Int) = n - 2 by omega, show n - 2 + 2 = n by omega, show n - 2 + 1 = n - 1 by omega]
  rw [← lwz_congr (f := f) (g := g) (y1 := y) (k := n - 2) (fun j h => hy j (by omega)), md_mull]
  show (if j = n then _ else y j) = (if j = n then _ else _)
  by_cases c : j = n
  · rw [if_pos c, if_pos c]
  · rw [if_neg c, if_neg c]
    exact hy j (by omega)
def nzz (f : Int → Int) : Int → Int := fun k => if k < 0 then 0 else f k
theorem ser_0 (r : Int → Int) (a b : Int) : ∀ j : Int, j < 2 → sT (sT (nzz r) 0 a) 1 b j = sT (sT (fun _ => 0) 0 a) 1 b j := by
  intro j hj
  show (if j = 1 then b else if j = 0 then a else (if j < 0 then 0 else r j)) = (if j = 1 then b else if j = 0 then a else 0)
  by_cases c1 : j = 1
  · rw [if_pos c1, if_pos c1]
  · rw [if_neg c1, if_neg c1]
    by_cases c0 : j = 0
    · rw [if_pos c0, if_pos c0]
    · rw [if_neg c0, if_neg c0, if_pos (by omega)]
theorem ser_r0 (r : Int → Int) (a b : Int) : ∀ j : Int, j < 2 → 0 ≤ sT (sT (nzz r) 0 (md a)) 1 (md b) j ∧ sT (sT (nzz r) 0 (md a)) 1 (md b) j < 32003 := by
  intro j hj
  rw [ser_0 r (md a) (md b) j hj]
  show 0 ≤ (if j = 1 then md b else if j = 0 then md a else 0) ∧ (if j = 1 then md b else if j = 0 then md a else 0) < 32003
  have h1 := md_r a
  have h2 := md_r b
  split
  · exact h2
  · split
    · exact h1
    · omega
theorem ser_n0 {y : Int → Int} {n x : Int} (hn : 0 ≤ n) (h : ∀ j : Int, j < 0 → y j = 0) : ∀ j : Int, j < 0 → sT y n x j = 0 := fun j hj => (if_neg (show ¬ j = n by omega)).trans (h j hj)
theorem ser_rs {y : Int → Int} {n x : Int} (hx : 0 ≤ x ∧ x < 32003) (h : ∀ j : Int, j < n → 0 ≤ y j ∧ y j < 32003) : ∀ j : Int, j < n + 1 → 0 ≤ sT y n x j ∧ sT y n x j < 32003 := by
  intro j hj
  show 0 ≤ (if j = n then x else y j) ∧ (if j = n then x else y j) < 32003
  split
  · exact hx
  · exact h j (by omega)
theorem ser_t1 {f y : Int → Int} {s n i : Int} : md (s + md (f i * (n - 1 - i)) * y (n - 1 - i)) = md (s + f i * slz y (n - 2 - i)) := by
  unfold slz
  rw [show n - 2 - i + 1 = n - 1 - i by omega]
  exact md_add2 rfl (by rw [md_mull, md_mulr, Int.mul_assoc])
theorem ser_o1 {f y : Int → Int} {n i : Int} (hy : ∀ j : Int, j < 0 → y j = 0) (h : n - 1 - i ≤ 0) : f i * slz y (n - 2 - i) = 0 := by
  unfold slz
  rw [show n - 2 - i + 1 = n - 1 - i by omega]
  by_cases c : n - 1 - i = 0
  · rw [c, Int.zero_mul]; exact Int.mul_zero _
  · rw [hy _ (by omega), Int.mul_zero]; exact Int.mul_zero _
theorem sumc_in {h : Int → Int} {c s j : Int} (hj : 0 ≤ j) (hs : s = md (c + suM h j.toNat)) : md (s + h j) = md (c + suM h (j + 1).toNat) := by
  rw [hs, ← suM_step h hj, md_addl, Int.add_assoc]
theorem sumc_out {h : Int → Int} {c s j : Int} (hj : 0 ≤ j) (hs : s = md (c + suM h j.toNat)) (h0 : h j = 0) : s = md (c + suM h (j + 1).toNat) := by
  rw [hs, ← suM_step h hj, h0, Int.add_zero]
theorem nn1_r {n : Int} (h : 2 ≤ n ∧ n ≤ 40) : 0 ≤ n * (n - 1) ∧ n * (n - 1) ≤ 1600 :=
  ⟨Int.mul_nonneg (by omega) (by omega), Int.le_trans (Int.mul_le_mul (show n ≤ 40 by omega) (show n - 1 ≤ 40 by omega) (by omega) (by omega)) (by decide)⟩
theorem an_row {f g : Int → Int} {k : Nat} {U Y : Int → Int} (h : (anz f g)[k]? = some (U, Y)) : RoW 3 U ∧ RoW 13 Y := by
  have hm : (U, Y) ∈ anz f g := List.mem_of_getElem? h
  unfold anz at hm
  have hA : ∀ m, (U, Y) ∈ tA (rez f g) f g m (nnz f g) → RoW 3 U ∧ RoW 13 Y := by
    intro m hq
    unfold tA at hq
    split at hq
    · rename_i c
      rw [List.mem_singleton] at hq
      obtain ⟨rfl, rfl⟩ := Prod.mk.inj hq
      have := tD_r (rez f g) m (nnz f g)
      exact ⟨tsz_row _ _, spz_row (by omega)⟩
    · exact absurd hq List.not_mem_nil
  split at hm
  · rw [List.mem_cons, List.mem_singleton] at hm
    rcases hm with hq | hq
    · obtain ⟨rfl, rfl⟩ := Prod.mk.inj hq
      exact ⟨tsz_row _ _, one_row (by decide)⟩
    · obtain ⟨rfl, rfl⟩ := Prod.mk.inj hq
      exact ⟨tsz_row _ _, one_row (by decide)⟩
  · split at hm
    · rw [List.mem_append] at hm
      exact hm.elim (hA _) (hA _)
    · exact absurd hm List.not_mem_nil
/-- what the reference lays in w for a quotient that is asked for -/
def pwz (f : Int → Int) (u0 u1 u2 : Int) : Int → Int := cuT 3 (fun i => if i = 2 then md (u2 + f 2 * 16002) else if i = 1 then md (u1 + f 1 * 16002) else md (u0 + f 0 * 16002))
theorem pwz_row (f : Int → Int) (u0 u1 u2 : Int) : RoW 3 (pwz f u0 u1 u2) := RoW.cuT 3 (fun i => by
  show 0 ≤ (if i = 2 then _ else if i = 1 then _ else _) ∧ (if i = 2 then _ else if i = 1 then _ else _) < 32003
  split
  · exact md_r _
  · split
    · exact md_r _
    · exact md_r _)
theorem pwz_ts (f : Int → Int) (u0 u1 u2 : Int) : tsz (pwz f u0 u1 u2) f = puz u0 u1 u2 := by
  have hq : ∀ u x : Int, md (md (u + x * 16002) - 16002 * x) = md u := fun u x => by
    rw [md_subl, Int.mul_comm 16002 x, Int.add_sub_cancel]
  funext k
  by_cases c : 0 ≤ k ∧ k < ((3 : Nat) : Int)
  · unfold tsz
    rw [cuT_in c]
    show md (pwz f u0 u1 u2 k - 16002 * f k) = _
    unfold pwz
    rw [cuT_in c]
    rcases (show k = 0 ∨ k = 1 ∨ k = 2 by omega) with rfl | rfl | rfl
    · exact hq _ _
    · exact hq _ _
    · exact hq _ _
  · rw [(tsz_row _ _).z (by omega), (puz_row (n := 3) (by decide) u0 u1 u2).z (by omega)]
theorem pwz_of (f y : Int → Int) (u0 u1 u2 : Int) : ∀ k : Int, 0 ≤ k → k < ((3 : Nat) : Int) → sT (sT (sT y 0 (md (u0 + f 0 * 16002))) 1 (md (u1 + f 1 * 16002))) 2 (md (u2 + f 2 * 16002)) k = pwz f u0 u1 u2 k := by
  intro k h0 h1
  unfold pwz
  rw [cuT_in ⟨h0, h1⟩]
  rcases (show k = 0 ∨ k = 1 ∨ k = 2 by omega) with rfl | rfl | rfl <;> rfl
theorem ext_len {f g : Int → Int} {x : Int} (h : 0 ≤ x ∧ x < ((anz f g).length : Int)) : ∃ U Y, (anz f g)[x.toNat]? = some (U, Y) := by
  refine ⟨((anz f g)[x.toNat]'(by omega)).1, ((anz f g)[x.toNat]'(by omega)).2, ?_⟩
  rw [List.getElem?_eq_getElem (by omega)]
