/-! MATH 5: what the reference makes of a trial is what the class's operator makes of it -/
theorem suM_add (h1 h2 : Int → Int) (n : Nat) : suM (fun i => h1 i + h2 i) n = suM h1 n + suM h2 n := by
  induction n with
  | zero => rfl
  | succ n ih =>
    show suM (fun i => h1 i + h2 i) n + (h1 n + h2 n) = (suM h1 n + h1 n) + (suM h2 n + h2 n)
    rw [ih]
    omega
theorem suM_single {n : Nat} (e x : Int) : suM (fun d => if d = e then x else 0) n = if 0 ≤ e ∧ e < (n : Int) then x else 0 := by
  induction n with
  | zero =>
    show (0 : Int) = _
    rw [if_neg (by omega)]
  | succ n ih =>
    show suM (fun d => if d = e then x else 0) n + (if (n : Int) = e then x else 0) = _
    rw [ih]
    by_cases c : (n : Int) = e
    · rw [if_pos c, if_neg (by omega), if_pos (by omega), Int.zero_add]
    · rw [if_neg c, Int.add_zero]
      by_cases c2 : 0 ≤ e ∧ e < (n : Int)
      · rw [if_pos c2, if_pos (by omega)]
      · rw [if_neg c2, if_neg (by omega)]
theorem conv_n {A B : Int → Int} {b : Nat} (hB : ∀ k : Int, (k < 0 ∨ (b : Int) ≤ k) → B k = 0) (c : Int) : ∀ n : Nat, suM (fun i => A i * B (c - i)) n = suM (fun d => B d * (if 0 ≤ c - d ∧ c - d < (n : Int) then A (c - d) else 0)) b := by
  intro n
  induction n with
  | zero =>
    rw [suM_zero (n := b) (fun j h0 h1 => by rw [if_neg (by omega), Int.mul_zero])]
    rfl
  | succ n ih =>
    show suM (fun i => A i * B (c - i)) n + A (n : Int) * B (c - (n : Int)) = _
    have e : suM (fun d => B d * (if 0 ≤ c - d ∧ c - d < ((n + 1 : Nat) : Int) then A (c - d) else 0)) b = suM (fun d => B d * (if 0 ≤ c - d ∧ c - d < (n : Int) then A (c - d) else 0) + (if d = c - (n : Int) then A (n : Int) * B (c - (n : Int)) else 0)) b := by
      refine suM_congr (fun d h0 h1 => ?_)
      by_cases q : d = c - (n : Int)
      · subst q
        rw [if_pos (by omega), if_neg (by omega), if_pos rfl, Int.mul_zero, Int.zero_add, show c - (c - (n : Int)) = (n : Int) by omega, Int.mul_comm]
      · rw [if_neg q, Int.add_zero]
        by_cases q2 : 0 ≤ c - d ∧ c - d < (n : Int)
        · rw [if_pos q2, if_pos (by omega)]
        · rw [if_neg q2, if_neg (by omega)]
    rw [e, suM_add, suM_single, ← ih]
    by_cases q : 0 ≤ c - (n : Int) ∧ c - (n : Int) < (b : Int)
    · rw [if_pos q]
    · rw [if_neg q, hB _ (by omega), Int.mul_zero]
theorem conv {A B : Int → Int} {a b : Nat} (hA : ∀ k : Int, (k < 0 ∨ (a : Int) ≤ k) → A k = 0) (hB : ∀ k : Int, (k < 0 ∨ (b : Int) ≤ k) → B k = 0) (c : Int) : suM (fun i => A i * B (c - i)) a = suM (fun d => B d * A (c - d)) b := by
  rw [conv_n hB c a]
  refine suM_congr (fun d h0 h1 => ?_)
  show B d * (if 0 ≤ c - d ∧ c - d < (a : Int) then A (c - d) else 0) = B d * A (c - d)
  by_cases q : 0 ≤ c - d ∧ c - d < (a : Int)
  · rw [if_pos q]
  · rw [if_neg q, hA _ (by omega)]
theorem md_suM {h1 h2 : Int → Int} {n : Nat} (h : ∀ j : Int, 0 ≤ j → j < (n : Int) → md (h1 j) = md (h2 j)) : md (suM h1 n) = md (suM h2 n) := by
  induction n with
  | zero => rfl
  | succ n ih =>
    show md (suM h1 n + h1 (n : Int)) = md (suM h2 n + h2 (n : Int))
    rw [← md_add, ih (fun j h0 h1 => h j h0 (by omega)), h (n : Int) (by omega) (by omega), md_add]
theorem md_mul2 {a b c d : Int} (h1 : md a = md b) (h2 : md c = md d) : md (a * c) = md (b * d) := by
  rw [← md_mull, h1, md_mull, ← md_mulr, h2, md_mulr]
theorem md_add2 {a b c d : Int} (h1 : md a = md b) (h2 : md c = md d) : md (a + c) = md (b + d) := by
  rw [← md_add, h1, h2, md_add]
theorem md_sub2 {a b c d : Int} (h1 : md a = md b) (h2 : md c = md d) : md (a - c) = md (b - d) := by
  rw [← md_subl, ← md_subr, h1, h2, md_subr, md_subl]
theorem md_P (a b : Int) : md (a + 32003 * b) = md a := by
  unfold md
  rw [Int.add_mul_emod_self_left]
/-- u is w less half of f, at each power -/
theorem tsz_c {w f : Int → Int} (hw : RoW 3 w) (hf : RoW 3 f) (k : Int) : md (tsz w f k) = md (w k - 16002 * f k) := by
  unfold tsz
  by_cases c : 0 ≤ k ∧ k < ((3 : Nat) : Int)
  · rw [cuT_in c, md_md]
  · rw [cuT_out (by omega), hw.z (by omega), hf.z (by omega)]
    rfl
theorem t1z_c {w f : Int → Int} (hw : RoW 3 w) (hf : RoW 3 f) {i : Int} (hi : 0 ≤ i ∧ i < 3) : md (t1z (tsz w f) f i) = md (2 * w i) := by
  unfold t1z
  rw [cuT_in (by omega), md_md, md_add2 (b := 2 * (w i - 16002 * f i)) (d := f i) (md_mul2 rfl (tsz_c hw hf i)) rfl]
  rw [show 2 * (w i - 16002 * f i) + f i = 2 * w i + 32003 * (-f i) by omega, md_P]
theorem slz_c {u v : Int → Int} (h : ∀ k, md (u k) = md (v k)) (k : Int) : md (slz u k) = md ((k + 1) * v (k + 1)) := by
  unfold slz
  rw [md_md]
  exact md_mul2 rfl (h _)
theorem tmz_c {n : Nat} {a b c d : Int → Int} (h1 : ∀ k, md (a k) = md (c k)) (h2 : ∀ k, md (b k) = md (d k)) (k : Int) : md (tmz n a b k) = md (suM (fun t => c t * d (k - t)) n) := by
  unfold tmz
  rw [md_md]
  exact md_suM (fun j _ _ => md_mul2 (h1 j) (h2 (k - j)))
theorem suM_mulc (c : Int) (h : Int → Int) (n : Nat) : suM (fun i => c * h i) n = c * suM h n := by
  induction n with
  | zero => show (0 : Int) = c * 0; rw [Int.mul_zero]
  | succ n ih =>
    show suM (fun i => c * h i) n + c * h n = c * (suM h n + h n)
    rw [ih, Int.mul_add]
/-- the two squares together -/
theorem sq_c {w f : Int → Int} (hw : RoW 3 w) (hf : RoW 3 f) (i : Int) : md (suM (fun t => (w t - 16002 * f t) * (w (i - t) - 16002 * f (i - t))) 3 + suM (fun t => f t * (w (i - t) - 16002 * f (i - t))) 3) = md (suM (fun t => w t * w (i - t)) 3 - 8001 * suM (fun t => f t * f (i - t)) 3) := by
  have hc : suM (fun t => w t * f (i - t)) 3 = suM (fun t => f t * w (i - t)) 3 := conv (a := 3) (b := 3) (fun k h => hw.z h) (fun k h => hf.z h) i
  have e1 : suM (fun t => (w t - 16002 * f t) * (w (i - t) - 16002 * f (i - t))) 3 = suM (fun t => w t * w (i - t)) 3 - 16002 * suM (fun t => w t * f (i - t)) 3 - 16002 * suM (fun t => f t * w (i - t)) 3 + 256064004 * suM (fun t => f t * f (i - t)) 3 := by
    have : (fun t => (w t - 16002 * f t) * (w (i - t) - 16002 * f (i - t))) = fun t => w t * w (i - t) + ((-16002) * (w t * f (i - t)) + ((-16002) * (f t * w (i - t)) + 256064004 * (f t * f (i - t)))) := by
      funext t
      generalize w t = a
      generalize f t = b
      generalize w (i - t) = c
      generalize f (i - t) = d
      grind
    rw [this, suM_add, suM_add, suM_add, suM_mulc, suM_mulc, suM_mulc]
    omega
  have e2 : suM (fun t => f t * (w (i - t) - 16002 * f (i - t))) 3 = suM (fun t => f t * w (i - t)) 3 - 16002 * suM (fun t => f t * f (i - t)) 3 := by
    have : (fun t => f t * (w (i - t) - 16002 * f (i - t))) = fun t => f t * w (i - t) + (-16002) * (f t * f (i - t)) := by
      funext t
      generalize f t = b
      generalize w (i - t) = c
      generalize f (i - t) = d
      grind
    rw [this, suM_add, suM_mulc]
    omega
  rw [e1, e2, hc]
  generalize suM (fun t => w t * w (i - t)) 3 = X
  generalize suM (fun t => f t * w (i - t)) 3 = Y
  generalize suM (fun t => f t * f (i - t)) 3 = Z
  rw [show X - 16002 * Y - 16002 * Y + 256064004 * Z + (Y - 16002 * Z) = (X - 8001 * Z) + 32003 * (-Y + 8001 * Z) by omega, md_P]
theorem t0z_c {w f g : Int → Int} (hw : RoW 3 w) (hf : RoW 3 f) {i : Int} (hi : 0 ≤ i ∧ i < 5) : md (t0z (tsz w f) f g i) = md ((i + 1) * w (i + 1) - moz (rez f g) w i) := by
  have hm : md (moz (rez f g) w i) = md (8001 * suM (fun t => f t * f (i - t)) 3 + 16002 * ((i + 1) * f (i + 1)) - g i - suM (fun t => w t * w (i - t)) 3) := by
    unfold moz
    rw [cuT_in (by omega), md_md]
    refine md_sub2 ?_ rfl
    unfold rez
    rw [cuT_in (by omega), md_md]
    refine md_sub2 (md_add2 (md_mul2 rfl ?_) (md_mul2 rfl ?_)) rfl
    · exact tmz_c (fun _ => rfl) (fun _ => rfl) i
    · exact slz_c (fun _ => rfl) i
  rw [md_sub2 rfl hm]
  unfold t0z
  rw [cuT_in (by omega), md_md]
  have h1 := slz_c (fun k => tsz_c hw hf k) i
  have h2 := tmz_c (n := 3) (fun k => tsz_c hw hf k) (fun k => tsz_c hw hf k) i
  have h3 := tmz_c (n := 3) (a := f) (c := f) (fun _ => rfl) (fun k => tsz_c hw hf k) i
  have h4 := sq_c hw hf i
  rw [show slz (tsz w f) i + tmz 3 (tsz w f) (tsz w f) i + tmz 3 f (tsz w f) i + g i = slz (tsz w f) i + (tmz 3 (tsz w f) (tsz w f) i + tmz 3 f (tsz w f) i) + g i by omega]
  rw [md_add2 (md_add2 h1 ((md_add2 h2 h3).trans h4)) rfl]
  congr 1
  generalize suM (fun t => w t * w (i - t)) 3 = X
  generalize suM (fun t => f t * f (i - t)) 3 = Z
  generalize w (i + 1) = a
  generalize f (i + 1) = b
  rw [show (i + 1) * (a - 16002 * b) = (i + 1) * a - 16002 * ((i + 1) * b) by grind]
  generalize (i + 1) * a = p
  generalize (i + 1) * b = q
  omega
/-- THE MAIN LEMMA of make -/
theorem LT_al {w f g y : Int → Int} (hw : RoW 3 w) (hf : RoW 3 f) (hy : RoW 13 y) {j : Int} (hj : 0 ≤ j) : LTz w (moz (rez f g) w) y j = alz (t1z (tsz w f) f) (t0z (tsz w f) f g) y j := by
  have hm := moz_row (rez f g) w
  generalize hmo : moz (rez f g) w = mo at hm ⊢
  have a1 : md (suM (fun i => t1z (tsz w f) f i * slz y (j - i)) 3) = md (suM (fun d => (d * y d) * (2 * w (j + 1 - d))) 13) := by
    have c1 : md (suM (fun i => t1z (tsz w f) f i * slz y (j - i)) 3) = md (suM (fun i => (2 * w i) * ((j + 1 - i) * y (j + 1 - i))) 3) := by
      refine md_suM (fun i h0 h1 => md_mul2 (t1z_c hw hf (by omega)) ?_)
      rw [slz_c (fun _ => rfl) (j - i), show j - i + 1 = j + 1 - i by omega]
    rw [c1]
    have c2 := conv (A := fun i => 2 * w i) (B := fun d => d * y d) (a := 3) (b := 13) (fun k h => by show 2 * w k = 0; rw [hw.z h]; rfl) (fun k h => by show k * y k = 0; rw [hy.z h, Int.mul_zero]) (j + 1)
    rw [c2]
  have a2 : md (suM (fun i => t0z (tsz w f) f g i * y (j - i)) 5) = md (suM (fun d => y d * ((j - d + 1) * w (j - d + 1) - mo (j - d))) 13) := by
    have c1 : md (suM (fun i => t0z (tsz w f) f g i * y (j - i)) 5) = md (suM (fun i => ((i + 1) * w (i + 1) - mo i) * y (j - i)) 5) := by
      refine md_suM (fun i h0 h1 => md_mul2 ?_ rfl)
      rw [t0z_c hw hf (by omega), hmo]
    rw [c1]
    have c2 := conv (A := fun i => (i + 1) * w (i + 1) - mo i) (B := y) (a := 5) (b := 13) (fun k h => by
      show (k + 1) * w (k + 1) - mo k = 0
      rw [hm.z h]
      by_cases q : k = -1
      · subst q; rw [show (-1 + 1 : Int) = 0 from rfl, Int.zero_mul]; rfl
      · rw [hw.z (k := k + 1) (by omega), Int.mul_zero]; rfl) (fun k h => hy.z h) j
    rw [c2]
  have a3 : (j + 2) * (j + 1) * y (j + 2) = suM (fun d => if d = j + 2 then (j + 2) * (j + 1) * y (j + 2) else 0) 13 := by
    rw [suM_single]
    by_cases q : j + 2 < ((13 : Nat) : Int)
    · rw [if_pos (by omega)]
    · rw [if_neg (by omega), hy.z (k := j + 2) (by omega), Int.mul_zero]
  unfold alz lwz
  rw [md_addr, ← Int.add_assoc, md_add2 (md_add2 (congrArg md a3) a1) a2, ← suM_add, ← suM_add]
  unfold LTz BBz
  congr 1
  refine suM_congr (fun d h0 h1 => ?_)
  show y d * KK w mo d j = (if d = j + 2 then (j + 2) * (j + 1) * y (j + 2) else 0) + d * y d * (2 * w (j + 1 - d)) + y d * ((j - d + 1) * w (j - d + 1) - mo (j - d))
  unfold KK
  rw [show j + 1 - d = j - d + 1 by omega]
  by_cases q : d = j + 2
  · subst q
    rw [if_pos rfl, if_pos (by omega)]
    generalize w (j - (j + 2) + 1) = a
    generalize mo (j - (j + 2)) = b
    generalize y (j + 2) = c
    grind
  · rw [if_neg q, if_neg (by omega)]
    generalize w (j - d + 1) = a
    generalize mo (j - d) = b
    generalize y d = c
    grind
theorem LT_hi {w mo : Int → Int} (hw : RoW 3 w) (hm : RoW 5 mo) (y : Int → Int) {j : Int} (hj : 17 ≤ j) : LTz w mo y j = 0 := by
  unfold LTz BBz
  rw [suM_zero (n := (13 : Int).toNat) (fun d h0 h1 => ?_)]
  · rfl
  · have h13 : d < 13 := h1
    show y d * KK w mo d j = 0
    unfold KK
    rw [if_neg (by omega), hw.z (k := j - d + 1) (by omega), hm.z (k := j - d) (by omega), Int.mul_zero]
    show y d * (0 + 0 - 0) = 0
    exact Int.mul_zero _
