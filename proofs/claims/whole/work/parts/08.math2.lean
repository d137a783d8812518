/-! MATH 2: series, asked pairs. -/
/-- expand's loop: c turns from k -/
def exR (f g : Int → Int) : Nat → Int → (Int → Int) → (Int → Int)
  | 0, _, y => y
  | c + 1, k, y => exR f g c (k + 1) (sT y (k + 2) (md (-(lwz f g y k) * ivz ((k + 2) * (k + 1)))))
def srz (f g : Int → Int) (a b : Int) (n : Int) : Int := exR f g (n - 1).toNat 0 (sT (sT (fun _ => 0) 0 a) 1 b) n
theorem suM_congr {h1 h2 : Int → Int} {n : Nat} (h : ∀ j : Int, 0 ≤ j → j < (n : Int) → h1 j = h2 j) : suM h1 n = suM h2 n := by
  induction n with
  | zero => rfl
  | succ n ih =>
    show suM h1 n + h1 (n : Int) = suM h2 n + h2 (n : Int)
    rw [ih (fun j h0 h1 => h j h0 (by omega)), h (n : Int) (by omega) (by omega)]
theorem lwz_congr {f g y1 y2 : Int → Int} {k : Int} (h : ∀ j : Int, j ≤ k + 1 → y1 j = y2 j) : lwz f g y1 k = lwz f g y2 k := by
  have e1 : suM (fun i => f i * slz y1 (k - i)) 3 = suM (fun i => f i * slz y2 (k - i)) 3 := suM_congr (fun j h0 h1 => by
    show f j * slz y1 (k - j) = f j * slz y2 (k - j)
    unfold slz
    rw [h (k - j + 1) (by omega)])
  have e2 : suM (fun i => g i * y1 (k - i)) 5 = suM (fun i => g i * y2 (k - i)) 5 := suM_congr (fun j h0 h1 => by
    show g j * y1 (k - j) = g j * y2 (k - j)
    rw [h (k - j) (by omega)])
  unfold lwz
  rw [e1, e2]
theorem exR_congr {f g : Int → Int} : ∀ (c : Nat) (k : Int) (y1 y2 : Int → Int), (∀ j : Int, j ≤ k + 1 → y1 j = y2 j) → ∀ j : Int, j ≤ k + 1 + (c : Int) → exR f g c k y1 j = exR f g c k y2 j := by
  intro c
  induction c with
  | zero => intro k y1 y2 h j hj; exact h j (by omega)
  | succ c ih =>
    intro k y1 y2 h j hj
    show exR f g c (k + 1) _ j = exR f g c (k + 1) _ j
    refine ih (k + 1) _ _ (fun i hi => ?_) j (by omega)
    show (if i = k + 2 then _ else y1 i) = (if i = k + 2 then _ else y2 i)
    by_cases e : i = k + 2
    · rw [if_pos e, if_pos e, lwz_congr h]
    · rw [if_neg e, if_neg e, h i (by omega)]
theorem ex_first {ln : Int → Int} (hl : RoW 41 ln) (a b : Int) : ∀ j : Int, j ≤ 0 + 1 → sT (sT ln 0 a) 1 b j = sT (sT (fun _ => 0) 0 a) 1 b j := by
  intro j hj
  show (if j = 1 then b else if j = 0 then a else ln j) = (if j = 1 then b else if j = 0 then a else 0)
  by_cases e1 : j = 1
  · rw [if_pos e1, if_pos e1]
  · rw [if_neg e1, if_neg e1]
    by_cases e0 : j = 0
    · rw [if_pos e0, if_pos e0]
    · rw [if_neg e0, if_neg e0, hl.z (by omega)]
theorem srz_of {f g ln y : Int → Int} {a b n : Int} (hl : RoW 41 ln) (h : y = exR f g (n - 1).toNat 0 (sT (sT ln 0 a) 1 b)) (hn : 0 ≤ n) : y n = srz f g a b n := by
  rw [h]
  exact exR_congr _ 0 _ _ (ex_first hl a b) n (by omega)
theorem ex_step {f g y : Int → Int} {n k : Int} (h : k + 2 ≤ n) : exR f g (n - 1 - (k + 1)).toNat (k + 1) (sT y (k + 2) (md (-(lwz f g y k) * ivz ((k + 2) * (k + 1))))) = exR f g (n - 1 - k).toNat k y := by
  have e : (n - 1 - k).toNat = (n - 1 - (k + 1)).toNat + 1 := by omega
  rw [e]
  rfl
theorem fac_r {k : Int} (h : 0 ≤ k ∧ k ≤ 40) : 0 ≤ (k + 2) * (k + 1) ∧ (k + 2) * (k + 1) ≤ 10000 := by
  have h1 : (k + 2) * (k + 1) ≤ 42 * (k + 1) := Int.mul_le_mul_of_nonneg_right (by omega) (by omega)
  exact ⟨Int.mul_nonneg (by omega) (by omega), by omega⟩
theorem negmul_bd {a b : Int} (ha : 0 ≤ a ∧ a < 32003) (hb : 0 ≤ b ∧ b < 32003) : -1024128004 ≤ -a * b ∧ -a * b ≤ 0 := by
  have h := mul_bd ha hb
  rw [Int.neg_mul]
  omega
/-- three numbers at powers 0, 1, 2 -/
def puz (x y z : Int) : Int → Int := fun k => if k = 2 then md z else if k = 1 then md y else if k = 0 then md x else 0
theorem puz_of {n : Nat} {f : Int → Int} (hf : RoW n f) (h3 : ∀ k : Int, 3 ≤ k → f k = 0) (x y z : Int) : sT (sT (sT f 0 (md x)) 1 (md y)) 2 (md z) = puz x y z := by
  funext k
  show (if k = 2 then md z else if k = 1 then md y else if k = 0 then md x else f k) = (if k = 2 then md z else if k = 1 then md y else if k = 0 then md x else 0)
  by_cases e2 : k = 2
  · rw [if_pos e2, if_pos e2]
  · rw [if_neg e2, if_neg e2]
    by_cases e1 : k = 1
    · rw [if_pos e1, if_pos e1]
    · rw [if_neg e1, if_neg e1]
      by_cases e0 : k = 0
      · rw [if_pos e0, if_pos e0]
      · rw [if_neg e0, if_neg e0]
        by_cases e : k < 0
        · exact hf.z (Or.inl e)
        · exact h3 k (by omega)
theorem puz_row {n : Nat} (hn : 3 ≤ n) (x y z : Int) : RoW n (puz x y z) := by
  intro k
  have h1 := md_r x
  have h2 := md_r y
  have h3 := md_r z
  show (0 ≤ (if k = 2 then md z else if k = 1 then md y else if k = 0 then md x else 0) ∧ (if k = 2 then md z else if k = 1 then md y else if k = 0 then md x else 0) < 32003) ∧ (_ → (if k = 2 then md z else if k = 1 then md y else if k = 0 then md x else 0) = 0)
  refine ⟨?_, fun h => ?_⟩
  · by_cases e2 : k = 2
    · rw [if_pos e2]; exact h3
    · rw [if_neg e2]
      by_cases e1 : k = 1
      · rw [if_pos e1]; exact h2
      · rw [if_neg e1]
        by_cases e0 : k = 0
        · rw [if_pos e0]; exact h1
        · rw [if_neg e0]; omega
  · rw [if_neg (by omega), if_neg (by omega), if_neg (by omega)]
theorem puz_3 (x y z : Int) : ∀ k : Int, 3 ≤ k → puz x y z k = 0 := fun k h => by
  show (if k = 2 then md z else if k = 1 then md y else if k = 0 then md x else 0) = 0
  rw [if_neg (by omega), if_neg (by omega), if_neg (by omega)]
def prz (f g : Int → Int) (u0 u1 u2 p0 p1 p2 : Int) : Bool := hoz (t1z (puz u0 u1 u2) f) (t0z (puz u0 u1 u2) f g) (puz p0 p1 p2)
theorem an_len {f g : Int → Int} {k : Nat} {q : (Int → Int) × (Int → Int)} (h : (anz f g)[k]? = some q) : (k : Int) < ((anz f g).length : Int) := by
  have := (List.getElem?_eq_some_iff.mp h).1
  omega
theorem ans_bd {a b q : Int} (ha : 0 ≤ a ∧ a < 32003) (hb : 0 ≤ b ∧ b < 32003) (hq : 0 ≤ q ∧ q < 32003) : 0 ≤ b + a * q ∧ b + a * q ≤ 1024200000 := by
  have h := mul_bd ha hq
  omega
