/-! MATH 4: the stages of make -/
theorem mul_bdc {a b : Int} (c : Int) (ha : 0 ≤ a ∧ a < 32003) (hb : 0 ≤ b ∧ b ≤ c) : 0 ≤ a * b ∧ a * b ≤ 32003 * c := by
  refine ⟨Int.mul_nonneg ha.1 hb.1, ?_⟩
  have h1 : a * b ≤ 32003 * b := Int.mul_le_mul_of_nonneg_right (by omega) hb.1
  omega
theorem dd_r {d : Int} (h : 0 ≤ d ∧ d ≤ 12) : 0 ≤ d * (d - 1) ∧ d * (d - 1) ≤ 1000 := by
  by_cases c : d = 0
  · subst c; decide
  · have h1 : d * (d - 1) ≤ 12 * (d - 1) := Int.mul_le_mul_of_nonneg_right (by omega) (by omega)
    exact ⟨Int.mul_nonneg (by omega) (by omega), by omega⟩
def L0 (w mo y : Int → Int) (d : Int) : Int → Int := fun j => md (BBz w mo y d j)
def L1 (w mo y : Int → Int) (d : Int) : Int → Int := fun j => md (BBz w mo y d j + eA (y d) d j)
def L2 (w mo y : Int → Int) (d k : Int) : Int → Int := fun j => md (BBz w mo y d j + eA (y d) d j + eB w (y d) d k j)
def L3 (w mo y : Int → Int) (d k : Int) : Int → Int := fun j => md (BBz w mo y d j + eA (y d) d j + eB w (y d) d 3 j + eC w (y d) d k j)
def L4 (w mo y : Int → Int) (d k : Int) : Int → Int := fun j => md (BBz w mo y d j + eA (y d) d j + eB w (y d) d 3 j + eC w (y d) d 2 j - eD mo (y d) d k j)
theorem L0_0 (w mo y : Int → Int) (j : Int) : L0 w mo y 0 j = 0 := rfl
theorem L0_skip {w mo y : Int → Int} {d : Int} (hd : 0 ≤ d) (h : y d = 0) : L0 w mo y d = L0 w mo y (d + 1) := BB_skip hd h
theorem L01_skip {w mo y : Int → Int} {d : Int} (hd : 0 ≤ d ∧ d ≤ 1) : L0 w mo y d = L1 w mo y d := by
  funext j
  show md _ = md (_ + eA (y d) d j)
  have e : eA (y d) d j = 0 := by
    unfold eA
    by_cases c : j = d - 2
    · rw [if_pos c]
      have h : d * (d - 1) = 0 := by
        rcases (show d = 0 ∨ d = 1 by omega) with h | h <;> rw [h] <;> rfl
      rw [h, Int.mul_zero]
    · rw [if_neg c]
  rw [e, Int.add_zero]
theorem L01_up {w mo y : Int → Int} {d : Int} : sT (L0 w mo y d) (d - 2) (md (L0 w mo y d (d - 2) + y d * (d * (d - 1)))) = L1 w mo y d := by
  refine ac_up (F := fun j => BBz w mo y d j) (F' := fun j => BBz w mo y d j + eA (y d) d j) ?_ (fun j hj => ?_)
  · show md (md _ + _) = md (_ + eA (y d) d (d - 2))
    rw [md_addl]
    unfold eA
    rw [if_pos rfl]
  · show _ + eA (y d) d j = _
    unfold eA
    rw [if_neg hj, Int.add_zero]
theorem L12 (w mo y : Int → Int) (d : Int) : L1 w mo y d = L2 w mo y d 0 := by
  funext j
  show md _ = md (_ + eB w (y d) d 0 j)
  rw [eB_0, Int.add_zero]
theorem L2_up {w mo y : Int → Int} {d k : Int} (hk : 0 ≤ k) : sT (L2 w mo y d k) (d - 1 + k) (md (L2 w mo y d k (d - 1 + k) + md (y d * (2 * d)) * w k)) = L2 w mo y d (k + 1) := by
  have ha := eB_a w (y d) d hk
  refine ac_up (F := fun j => BBz w mo y d j + eA (y d) d j + eB w (y d) d k j) (F' := fun j => BBz w mo y d j + eA (y d) d j + eB w (y d) d (k + 1) j) ?_ (fun j hj => ?_)
  · show md (md (_ + _ + eB w (y d) d k (d - 1 + k)) + _) = md (_ + _ + eB w (y d) d (k + 1) (d - 1 + k))
    rw [ha.1, ha.2, Int.add_zero]
    exact md_up _ _ _ (md_mull _ _)
  · show _ + eB w (y d) d (k + 1) j = _ + eB w (y d) d k j
    rw [eB_s w (y d) d hj hk]
theorem L23 (w mo y : Int → Int) (d : Int) : L2 w mo y d 3 = L3 w mo y d 0 := by
  funext j
  show md _ = md (_ + eC w (y d) d 0 j)
  rw [eC_0, Int.add_zero]
theorem L23_0 {w mo y : Int → Int} {d : Int} (hd : d = 0) : L2 w mo y d 0 = L3 w mo y d 0 := by
  rw [← L23]
  funext j
  show md (_ + eB w (y d) d 0 j) = md (_ + eB w (y d) d 3 j)
  have e : eB w (y d) d 3 j = 0 := by
    unfold eB
    rw [hd]
    split
    · rw [show (2 * 0 : Int) = 0 from rfl, Int.mul_zero, Int.zero_mul]
    · rfl
  rw [e, eB_0]
theorem L3_up {w mo y : Int → Int} {d k : Int} (hk : 0 ≤ k) : sT (L3 w mo y d k) (d + k) (md (L3 w mo y d k (d + k) + md (y d * (k + 1)) * w (k + 1))) = L3 w mo y d (k + 1) := by
  have ha := eC_a w (y d) d hk
  refine ac_up (F := fun j => BBz w mo y d j + eA (y d) d j + eB w (y d) d 3 j + eC w (y d) d k j) (F' := fun j => BBz w mo y d j + eA (y d) d j + eB w (y d) d 3 j + eC w (y d) d (k + 1) j) ?_ (fun j hj => ?_)
  · show md (md (_ + _ + _ + eC w (y d) d k (d + k)) + _) = md (_ + _ + _ + eC w (y d) d (k + 1) (d + k))
    rw [ha.1, ha.2, Int.add_zero]
    exact md_up _ _ _ (md_mull _ _)
  · show _ + eC w (y d) d (k + 1) j = _ + eC w (y d) d k j
    rw [eC_s w (y d) d hj hk]
theorem L34 (w mo y : Int → Int) (d : Int) : L3 w mo y d 2 = L4 w mo y d 0 := by
  funext j
  show md _ = md (_ - eD mo (y d) d 0 j)
  rw [eD_0, Int.sub_zero]
theorem L4_up {w mo y : Int → Int} {d k : Int} (hk : 0 ≤ k) : sT (L4 w mo y d k) (d + k) (md (L4 w mo y d k (d + k) - y d * mo k)) = L4 w mo y d (k + 1) := by
  have ha := eD_a mo (y d) d hk
  refine ac_up (F := fun j => BBz w mo y d j + eA (y d) d j + eB w (y d) d 3 j + eC w (y d) d 2 j - eD mo (y d) d k j) (F' := fun j => BBz w mo y d j + eA (y d) d j + eB w (y d) d 3 j + eC w (y d) d 2 j - eD mo (y d) d (k + 1) j) ?_ (fun j hj => ?_)
  · show md (md (_ + _ + _ + _ - eD mo (y d) d k (d + k)) - _) = md (_ + _ + _ + _ - eD mo (y d) d (k + 1) (d + k))
    rw [ha.1, ha.2, Int.sub_zero]
    exact md_subl _ _
  · show _ - eD mo (y d) d (k + 1) j = _ - eD mo (y d) d k j
    rw [eD_s mo (y d) d hj hk]
theorem L40 {w mo y : Int → Int} (hw : RoW 3 w) (hm : RoW 5 mo) {d : Int} (hd : 0 ≤ d) : L4 w mo y d 5 = L0 w mo y (d + 1) := by
  funext j
  show md _ = md (BBz w mo y (d + 1) j)
  rw [BB_s hd, ← e_all hw hm (y d) hd j]
  congr 1
  omega
