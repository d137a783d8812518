/-! MATH 3: what take, make, solve of the reference compute, in the class's words -/
def moz (r w : Int → Int) : Int → Int := cuT 5 (fun k => md (r k - suM (fun t => w t * w (k - t)) 3))
theorem moz_row (r w : Int → Int) : RoW 5 (moz r w) := RoW.cuT 5 (fun _ => md_r _)
theorem fw_eq (c S b : Int) : md (md (c - S) * b) = md ((c - md S) * b) := by
  rw [md_mull, ← md_mull (c - md S), md_subr, md_mull]
theorem td_eq (A iv n : Int) : md (md (md (A * iv) - n) * 16002) = md ((A * iv - n) * 16002) := by
  rw [md_mull, ← md_mull (A * iv - n), ← md_subl (A * iv) n, md_mull]
theorem dz_moz {r w : Int → Int} {m n : Int} (hn : 1 ≤ n ∧ n ≤ 2) : md (md (md (moz r w (n - 1) * ivz m) - n) * 16002) = dz r w m n := by
  rw [td_eq]
  unfold dz moz tmz
  rw [cuT_in (by omega), md_subr]
theorem suM_zero {h : Int → Int} {n : Nat} (hz : ∀ j : Int, 0 ≤ j → j < (n : Int) → h j = 0) : suM h n = 0 := by
  rw [suM_congr (h2 := fun _ => 0) hz]
  induction n with
  | zero => rfl
  | succ n ih =>
    show suM (fun _ => 0) n + 0 = 0
    rw [ih (fun j h0 h1 => hz j h0 (by omega))]
    rfl
theorem dz_zero {r w : Int → Int} (hr : RoW 5 r) (hw : RoW 3 w) (m : Int) : dz r w m 0 = 0 := by
  unfold dz tmz
  rw [suM_zero (fun j h0 h1 => by show w j * w (0 - 1 - j) = 0; rw [hw.z (k := 0 - 1 - j) (Or.inl (by omega)), Int.mul_zero]), hr.z (k := 0 - 1) (Or.inl (by omega))]
  rw [show md (0 - md 0) = 0 from rfl, Int.zero_mul]
  rfl
theorem sT0_row {n m : Int} (hn : 0 ≤ n ∧ n ≤ 2) (hm : 0 ≤ m ∧ m < 32003) : RoW 3 (sT (fun _ => 0) n m) := (RoW.zero 3).sT (by omega) hm
/-- what a unit of P at the power d brings at the power j -/
def KK (w mo : Int → Int) (d j : Int) : Int := (if j = d - 2 then d * (d - 1) else 0) + (2 * d + (j - d + 1)) * w (j - d + 1) - mo (j - d)
def BBz (w mo y : Int → Int) (d : Int) (j : Int) : Int := suM (fun e => y e * KK w mo e j) d.toNat
def LTz (w mo y : Int → Int) : Int → Int := fun j => md (BBz w mo y 13 j)
theorem ac_up {F F' : Int → Int} {i x : Int} (hx : x = md (F' i)) (ho : ∀ j, j ≠ i → F' j = F j) : sT (fun j => md (F j)) i x = fun j => md (F' j) := by
  funext j
  show (if j = i then x else md (F j)) = md (F' j)
  by_cases e : j = i
  · rw [if_pos e, hx, e]
  · rw [if_neg e, ho j e]
def eA (v d j : Int) : Int := if j = d - 2 then v * (d * (d - 1)) else 0
def eB (w : Int → Int) (v d k j : Int) : Int := if d - 1 ≤ j ∧ j < d - 1 + k then v * (2 * d) * w (j - d + 1) else 0
def eC (w : Int → Int) (v d k j : Int) : Int := if d ≤ j ∧ j < d + k then v * (j - d + 1) * w (j - d + 1) else 0
def eD (mo : Int → Int) (v d k j : Int) : Int := if d ≤ j ∧ j < d + k then v * mo (j - d) else 0
theorem eB_0 (w : Int → Int) (v d j : Int) : eB w v d 0 j = 0 := if_neg (by omega)
theorem eC_0 (w : Int → Int) (v d j : Int) : eC w v d 0 j = 0 := if_neg (by omega)
theorem eD_0 (mo : Int → Int) (v d j : Int) : eD mo v d 0 j = 0 := if_neg (by omega)
theorem eB_s (w : Int → Int) (v d : Int) {k j : Int} (h : j ≠ d - 1 + k) (hk : 0 ≤ k) : eB w v d (k + 1) j = eB w v d k j := by
  unfold eB
  by_cases c : d - 1 ≤ j ∧ j < d - 1 + k
  · rw [if_pos c, if_pos (by omega)]
  · rw [if_neg c, if_neg (by omega)]
theorem eB_a (w : Int → Int) (v d : Int) {k : Int} (hk : 0 ≤ k) : eB w v d k (d - 1 + k) = 0 ∧ eB w v d (k + 1) (d - 1 + k) = v * (2 * d) * w k := by
  unfold eB
  rw [if_neg (by omega), if_pos (by omega), show d - 1 + k - d + 1 = k by omega]
  exact ⟨rfl, rfl⟩
theorem eC_s (w : Int → Int) (v d : Int) {k j : Int} (h : j ≠ d + k) (hk : 0 ≤ k) : eC w v d (k + 1) j = eC w v d k j := by
  unfold eC
  by_cases c : d ≤ j ∧ j < d + k
  · rw [if_pos c, if_pos (by omega)]
  · rw [if_neg c, if_neg (by omega)]
theorem eC_a (w : Int → Int) (v d : Int) {k : Int} (hk : 0 ≤ k) : eC w v d k (d + k) = 0 ∧ eC w v d (k + 1) (d + k) = v * (k + 1) * w (k + 1) := by
  unfold eC
  rw [if_neg (by omega), if_pos (by omega), show d + k - d + 1 = k + 1 by omega]
  exact ⟨rfl, rfl⟩
theorem eD_s (mo : Int → Int) (v d : Int) {k j : Int} (h : j ≠ d + k) (hk : 0 ≤ k) : eD mo v d (k + 1) j = eD mo v d k j := by
  unfold eD
  by_cases c : d ≤ j ∧ j < d + k
  · rw [if_pos c, if_pos (by omega)]
  · rw [if_neg c, if_neg (by omega)]
theorem eD_a (mo : Int → Int) (v d : Int) {k : Int} (hk : 0 ≤ k) : eD mo v d k (d + k) = 0 ∧ eD mo v d (k + 1) (d + k) = v * mo k := by
  unfold eD
  rw [if_neg (by omega), if_pos (by omega), show d + k - d = k by omega]
  exact ⟨rfl, rfl⟩
/-- the four sums together are what the unit at d brings, v times -/
theorem e_all {w mo : Int → Int} (hw : RoW 3 w) (hm : RoW 5 mo) (v : Int) {d : Int} (hd : 0 ≤ d) (j : Int) : eA v d j + eB w v d 3 j + eC w v d 2 j - eD mo v d 5 j = v * KK w mo d j := by
  have e1 : eA v d j = v * (if j = d - 2 then d * (d - 1) else 0) := by
    unfold eA
    by_cases c : j = d - 2
    · rw [if_pos c, if_pos c]
    · rw [if_neg c, if_neg c, Int.mul_zero]
  have e2 : eB w v d 3 j = v * ((2 * d) * w (j - d + 1)) := by
    unfold eB
    by_cases c : d - 1 ≤ j ∧ j < d - 1 + 3
    · rw [if_pos c, Int.mul_assoc]
    · rw [if_neg c, hw.z (k := j - d + 1) (by omega), Int.mul_zero, Int.mul_zero]
  have e3 : eC w v d 2 j = v * ((j - d + 1) * w (j - d + 1)) := by
    unfold eC
    by_cases c : d ≤ j ∧ j < d + 2
    · rw [if_pos c, Int.mul_assoc]
    · rw [if_neg c]
      by_cases c2 : j - d + 1 = 0
      · rw [c2, Int.zero_mul, Int.mul_zero]
      · rw [hw.z (k := j - d + 1) (by omega), Int.mul_zero, Int.mul_zero]
  have e4 : eD mo v d 5 j = v * mo (j - d) := by
    unfold eD
    by_cases c : d ≤ j ∧ j < d + 5
    · rw [if_pos c]
    · rw [if_neg c, hm.z (k := j - d) (by omega), Int.mul_zero]
  unfold KK
  rw [e1, e2, e3, e4]
  generalize (if j = d - 2 then d * (d - 1) else 0) = X
  generalize w (j - d + 1) = Y
  generalize mo (j - d) = Z
  rw [Int.mul_sub v, Int.mul_add v X, Int.add_mul (2 * d), Int.mul_add v (2 * d * Y)]
  omega
theorem BB_s {w mo y : Int → Int} {d : Int} (hd : 0 ≤ d) (j : Int) : BBz w mo y (d + 1) j = BBz w mo y d j + y d * KK w mo d j := (suM_step (fun e => y e * KK w mo e j) hd).symm
theorem BB_skip {w mo y : Int → Int} {d : Int} (hd : 0 ≤ d) (h : y d = 0) : (fun j => md (BBz w mo y d j)) = fun j => md (BBz w mo y (d + 1) j) := by
  funext j
  rw [BB_s hd, h, Int.zero_mul, Int.add_zero]
theorem md_up (F t t' : Int) (h : md t' = md t) : md (md F + t') = md (F + t) := by
  rw [md_addl, ← md_addr F t', h, md_addr]
theorem md_dn (F t : Int) : md (md F - t) = md (F - t) := md_subl F t
/-- an odd power of the negative -/
theorem rsz_neg (n : Nat) : ∀ (e q r : Int), rsz n e q (md (-r)) = md (-(rsz n e q r)) := by
  induction n with
  | zero => intro e q r; rfl
  | succ n ih =>
    intro e q r
    show rsz n (e / 2) (md (q * q)) (if e % 2 = 1 then md (md (-r) * q) else md (-r)) = md (-(rsz n (e / 2) (md (q * q)) (if e % 2 = 1 then md (r * q) else r)))
    by_cases c : e % 2 = 1
    · rw [if_pos c, if_pos c, md_mull, Int.neg_mul, ← ih, ← Int.zero_sub, ← md_subr, Int.zero_sub]
    · rw [if_neg c, if_neg c, ih]
theorem ivz_neg (b : Int) : ivz (md (-b)) = md (-(ivz (md b))) := by
  have key : ∀ v : Int, ivz v = rsz 14 16000 (md (v * v)) (md v) := by
    intro v
    show rsz 14 (32001 / 2) (md (md v * md v)) (if (32001 : Int) % 2 = 1 then md (1 * md v) else 1) = _
    rw [if_pos (by decide), Int.one_mul, md_md, md_mull, md_mulr]
    rfl
  rw [key, key (md b), md_md, md_md, md_mull, md_mulr, md_mull, md_mulr, Int.neg_mul_neg, ← rsz_neg, ← Int.zero_sub (md b), md_subr, Int.zero_sub]
theorem so_eq (L b : Int) : md (md (-L) * ivz (md (-b))) = md (L * ivz (md b)) := by
  rw [ivz_neg, md_mull, md_mulr, Int.neg_mul_neg]
