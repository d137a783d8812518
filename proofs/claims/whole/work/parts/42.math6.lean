/-! MATH 6: solve, keep -/
theorem two_bdn {m q : Int} (hm : 0 ≤ m ∧ m < 32003) (hq : -100 ≤ q ∧ q ≤ 0) : -6400600 ≤ 2 * m * q ∧ 2 * m * q ≤ 0 := by
  have h := two_bd (m := m) (q := -q) hm (by omega)
  have e : 2 * m * -q = -(2 * m * q) := by rw [Int.mul_neg]
  rw [e] at h
  omega
theorem sv_eq {w f g y : Int → Int} (hw : RoW 3 w) (hf : RoW 3 f) (hy : RoW 13 y) {m d k n : Int} (hn : 0 ≤ k + n - 1) : md (md (-(LTz w (moz (rez f g) w) y (k + n - 1))) * ivz (md (2 * m * (k - d)))) = md (alz (t1z (tsz w f) f) (t0z (tsz w f) f g) y (k + n - 1) * ivz (md (2 * m * (d - k)))) := by
  rw [LT_al hw hf hy hn, show 2 * m * (k - d) = -(2 * m * (d - k)) by rw [← Int.mul_neg]; congr 1; omega]
  exact so_eq _ _
theorem ho_t {w f g y : Int → Int} (hw : RoW 3 w) (hf : RoW 3 f) (hy : RoW 13 y) (h : ∀ j : Int, 0 ≤ j → j < 20 → LTz w (moz (rez f g) w) y j = 0) : hoz (t1z (tsz w f) f) (t0z (tsz w f) f g) y = true := by
  unfold hoz
  refine hob_t (fun j h0 h1 => ?_)
  rw [← LT_al hw hf hy h0]
  exact h j h0 (by omega)
theorem ho_f {w f g y : Int → Int} (hw : RoW 3 w) (hf : RoW 3 f) (hy : RoW 13 y) {j : Int} (h0 : 0 ≤ j) (h : LTz w (moz (rez f g) w) y j ≠ 0) : hoz (t1z (tsz w f) f) (t0z (tsz w f) f g) y = false := by
  unfold hoz
  by_cases c : 17 ≤ j
  · exact absurd (LT_hi hw (moz_row _ _) y c) h
  · refine hob_f h0 (by omega) ?_
    rw [← LT_al hw hf hy h0]
    exact h
theorem LTz_r (w mo y : Int → Int) (j : Int) : 0 ≤ LTz w mo y j ∧ LTz w mo y j < 32003 := md_r _
/-- the last place up to k where y isn't 0 (0 if none) -/
def lastz (y : Int → Int) : Nat → Int
  | 0 => 0
  | k + 1 => if y (k : Int) ≠ 0 then (k : Int) else lastz y k
theorem last_tp {y : Int → Int} {n : Nat} (h : 0 ≤ tpz y n) : lastz y n = tpz y n := by
  induction n with
  | zero => exact absurd (show (0 : Int) ≤ -1 from h) (by omega)
  | succ n ih =>
    by_cases c : y (n : Int) ≠ 0
    · rw [show lastz y (n + 1) = (n : Int) from if_pos c, show tpz y (n + 1) = (n : Int) from if_pos c]
    · rw [show lastz y (n + 1) = lastz y n from if_neg c, show tpz y (n + 1) = tpz y n from if_neg c]
      exact ih (by rw [show tpz y (n + 1) = tpz y n from if_neg c] at h; exact h)
theorem last_s (y : Int → Int) {k : Int} (hk : 0 ≤ k) : lastz y (k + 1).toNat = if y k ≠ 0 then k else lastz y k.toNat := by
  have e : (k + 1).toNat = k.toNat + 1 := by omega
  rw [e]
  show (if y ((k.toNat : Nat) : Int) ≠ 0 then ((k.toNat : Nat) : Int) else lastz y k.toNat) = _
  rw [Int.toNat_of_nonneg hk]
theorem last_r (y : Int → Int) (n : Nat) : 0 ≤ lastz y n ∧ lastz y n ≤ (n : Int) := by
  induction n with
  | zero => exact ⟨Int.le_refl _, Int.le_refl _⟩
  | succ n ih =>
    show 0 ≤ (if y (n : Int) ≠ 0 then (n : Int) else lastz y n) ∧ (if y (n : Int) ≠ 0 then (n : Int) else lastz y n) ≤ _
    split <;> omega
theorem tpz_in {y : Int → Int} {n : Nat} {k : Int} (h0 : 0 ≤ k) (h1 : k < (n : Int)) (h : y k ≠ 0) : 0 ≤ tpz y n := by
  induction n with
  | zero => omega
  | succ n ih =>
    by_cases c : y (n : Int) ≠ 0
    · rw [show tpz y (n + 1) = (n : Int) from if_pos c]; omega
    · rw [show tpz y (n + 1) = tpz y n from if_neg c]
      refine ih ?_
      by_cases e : k = (n : Int)
      · rw [e] at h; exact absurd h c
      · omega
theorem soz_hi {tf tz : Int → Int} {d m n : Int} : ∀ (c : Nat) (y : Int → Int) (k : Int), (c : Int) ≤ k → soz tf tz d m n c y k = y k := by
  intro c
  induction c with
  | zero => intro y k _; rfl
  | succ c ih =>
    intro y k hk
    show soz tf tz d m n c (sT y (c : Int) _) k = y k
    rw [ih _ k (by omega)]
    show (if k = (c : Int) then _ else y k) = y k
    rw [if_neg (by omega)]
theorem spz_d {tf tz : Int → Int} {d m n : Int} (hd : 0 ≤ d) : spz tf tz d m n d = 1 := by
  unfold spz
  rw [soz_hi _ _ _ (by omega)]
  exact if_pos rfl
theorem spz_deg {tf tz : Int → Int} {d m n : Int} (hd : 0 ≤ d ∧ d ≤ 12) : lastz (spz tf tz d m n) 13 = tpz (spz tf tz d m n) 13 := last_tp (tpz_in (k := d) hd.1 (by omega) (by rw [spz_d hd.1]; decide))
theorem one_deg {d : Int} (hd : 0 ≤ d ∧ d ≤ 12) : lastz (sT (fun _ => 0) d 1) 13 = tpz (sT (fun _ => 0) d 1) 13 := last_tp (tpz_in (k := d) hd.1 (by omega) (by show (if d = d then (1 : Int) else 0) ≠ 0; rw [if_pos rfl]; decide))
/-- an array with a block of n numbers written from c on -/
def blk (n : Nat) (c : Int) (y old : Int → Int) : Int → Int := fun j => if c ≤ j ∧ j < c + (n : Int) then y (j - c) else old j
def blkP (c : Int) (y old : Int → Int) (k : Int) : Int → Int := fun j => if c ≤ j ∧ j < c + k then y (j - c) else old j
theorem blkP_0 (c : Int) (y old : Int → Int) : blkP c y old 0 = old := by
  funext j
  exact if_neg (by omega)
theorem blkP_s {c k x : Int} {y old : Int → Int} (hk : 0 ≤ k) (hx : x = y k) : sT (blkP c y old k) (c + k) x = blkP c y old (k + 1) := by
  funext j
  show (if j = c + k then x else if c ≤ j ∧ j < c + k then y (j - c) else old j) = (if c ≤ j ∧ j < c + (k + 1) then y (j - c) else old j)
  by_cases e : j = c + k
  · rw [if_pos e, if_pos (by omega), hx, e]
    congr 1
    omega
  · rw [if_neg e]
    by_cases q : c ≤ j ∧ j < c + k
    · rw [if_pos q, if_pos (by omega)]
    · rw [if_neg q, if_neg (by omega)]
theorem blkP_n (n : Nat) (c : Int) (y old : Int → Int) : blkP c y old (n : Int) = blk n c y old := rfl
