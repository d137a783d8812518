/-! MATH 7: the list of ANSWERS as the reference keeps it -/
def ansL (L : List ((Int → Int) × (Int → Int))) (mn : Int) (dg pl sl : Int → Int) : Prop := mn = (L.length : Int) ∧ ∀ (k : Nat) (U P : Int → Int), L[k]? = some (U, P) → (∀ j : Int, 0 ≤ j → j < 13 → pl (13 * (k : Int) + j) = P j) ∧ dg (k : Int) = tpz P 13 ∧ (∀ j : Int, 0 ≤ j → j < 3 → sl (3 * (k : Int) + j) = U j)
theorem ansL_0 (dg pl sl : Int → Int) : ansL [] 0 dg pl sl := ⟨rfl, fun k U P h => by simp at h⟩
theorem ansL_add {L : List ((Int → Int) × (Int → Int))} {mn : Int} {dg pl sl U P : Int → Int} (h : ansL L mn dg pl sl) (hP : lastz P 13 = tpz P 13) : ansL (L ++ [(U, P)]) (mn + 1) (sT dg mn (lastz P 13)) (blk 13 (13 * mn) P pl) (blk 3 (3 * mn) U sl) := by
  obtain ⟨hl, h⟩ := h
  refine ⟨by rw [List.length_append, hl]; simp, fun k U' P' hk => ?_⟩
  by_cases c : k < L.length
  · rw [List.getElem?_append_left c] at hk
    obtain ⟨h1, h2, h3⟩ := h k U' P' hk
    refine ⟨fun j j0 j1 => ?_, ?_, fun j j0 j1 => ?_⟩
    · show (if 13 * mn ≤ 13 * (k : Int) + j ∧ 13 * (k : Int) + j < 13 * mn + ((13 : Nat) : Int) then _ else pl (13 * (k : Int) + j)) = P' j
      rw [if_neg (by omega)]
      exact h1 j j0 j1
    · show (if (k : Int) = mn then _ else dg (k : Int)) = _
      rw [if_neg (by omega)]
      exact h2
    · show (if 3 * mn ≤ 3 * (k : Int) + j ∧ 3 * (k : Int) + j < 3 * mn + ((3 : Nat) : Int) then _ else sl (3 * (k : Int) + j)) = U' j
      rw [if_neg (by omega)]
      exact h3 j j0 j1
  · have hk2 : k = L.length := by
      have := (List.getElem?_eq_some_iff.mp hk).1
      rw [List.length_append] at this
      simp at this
      omega
    subst hk2
    rw [List.getElem?_append_right (Nat.le_refl _)] at hk
    simp at hk
    obtain ⟨rfl, rfl⟩ := hk
    refine ⟨fun j j0 j1 => ?_, ?_, fun j j0 j1 => ?_⟩
    · show (if 13 * mn ≤ 13 * (L.length : Int) + j ∧ 13 * (L.length : Int) + j < 13 * mn + ((13 : Nat) : Int) then P (13 * (L.length : Int) + j - 13 * mn) else _) = P j
      rw [if_pos (by omega)]
      congr 1
      omega
    · show (if (L.length : Int) = mn then lastz P 13 else _) = _
      rw [if_pos hl.symm]
      exact hP
    · show (if 3 * mn ≤ 3 * (L.length : Int) + j ∧ 3 * (L.length : Int) + j < 3 * mn + ((3 : Nat) : Int) then U (3 * (L.length : Int) + j - 3 * mn) else _) = U j
      rw [if_pos (by omega)]
      congr 1
      omega
/-- the plain ANSWERS kept so far -/
def plnL (f : Int → Int) (d : Int) : List ((Int → Int) × (Int → Int)) := [(tsz (fun _ => 0) f, sT (fun _ => 0) 0 1), (tsz (fun _ => 0) f, sT (fun _ => 0) 1 1)].take d.toNat
theorem plnL_s {f : Int → Int} {d : Int} (hd : 0 ≤ d ∧ d < 2) : plnL f (d + 1) = plnL f d ++ [(tsz (fun _ => 0) f, sT (fun _ => 0) d 1)] := by
  rcases (show d = 0 ∨ d = 1 by omega) with rfl | rfl <;> rfl
theorem an_0 {f g : Int → Int} (h : kdz f g = 0) : anz f g = plnL f 2 := if_pos h
/-- the ANSWERS of the ROOTS tried so far -/
def rtr (f g : Int → Int) (i : Int) : Int := if i = 0 then ltz f g else 32003 - ltz f g
def rotL (f g : Int → Int) (i : Int) : List ((Int → Int) × (Int → Int)) := if kdz f g = 3 then (if i ≤ 0 then [] else if i = 1 then tA (rez f g) f g (rtr f g 0) (nnz f g) else tA (rez f g) f g (rtr f g 0) (nnz f g) ++ tA (rez f g) f g (rtr f g 1) (nnz f g)) else []
theorem rotL_0 (f g : Int → Int) : rotL f g 0 = [] := by
  unfold rotL
  split
  · rfl
  · rfl
theorem rotL_s {f g : Int → Int} (hk : kdz f g = 3) {i : Int} (hi : 0 ≤ i ∧ i < 2) : rotL f g (i + 1) = rotL f g i ++ tA (rez f g) f g (rtr f g i) (nnz f g) := by
  unfold rotL
  rw [if_pos hk, if_pos hk]
  rcases (show i = 0 ∨ i = 1 by omega) with rfl | rfl
  · rfl
  · rfl
theorem an_3 {f g : Int → Int} (h : kdz f g ≠ 0) : anz f g = rotL f g 2 := by
  unfold anz rotL
  rw [if_neg h]
  by_cases c : kdz f g = 3
  · rw [if_pos c, if_pos c]; rfl
  · rw [if_neg c, if_neg c]
theorem an_n {f g : Int → Int} (h : kdz f g ≠ 0) (h3 : kdz f g ≠ 3) (i : Int) : anz f g = rotL f g i := by
  unfold anz rotL
  rw [if_neg h, if_neg h3, if_neg h3]
theorem kd3_top {f g : Int → Int} (h : kdz f g = 3) : 0 ≤ tpz (rez f g) 5 ∧ 0 ≤ ltz f g := by
  unfold kdz at h
  split at h
  · omega
  · rename_i c
    split at h
    · omega
    · split at h
      · omega
      · rename_i c2
        exact ⟨by omega, by show 0 ≤ lrz _; omega⟩
theorem rtr_r {f g : Int → Int} (h : kdz f g = 3) (i : Int) : 0 < rtr f g i ∧ rtr f g i < 32003 := by
  have h1 := kd3_top h
  have h2 := lt_pos h1.1 h1.2
  have h3 := lt_r f g
  unfold rtr
  split <;> omega
theorem fwR_hi {r : Int → Int} {n q : Int} : ∀ (c : Nat) (y : Int → Int) (k : Int), (c : Int) ≤ k → fwR r n q c y k = y k := by
  intro c
  induction c with
  | zero => intro y k _; rfl
  | succ c ih =>
    intro y k hk
    show fwR r n q c (sT y (c : Int) _) k = y k
    rw [ih _ k (by omega)]
    show (if k = (c : Int) then _ else y k) = y k
    rw [if_neg (by omega)]
theorem fwz_n {r : Int → Int} {m n : Int} (hn : 0 ≤ n) : fwz r m n n = m := by
  unfold fwz
  rw [fwR_hi _ _ _ (by omega)]
  exact if_pos rfl
theorem tA_in {r f g : Int → Int} {m n : Int} (h : tD r m n ≤ 12) (h2 : hoz (t1z (tsz (fwz r m n) f) f) (t0z (tsz (fwz r m n) f) f g) (spz (t1z (tsz (fwz r m n) f) f) (t0z (tsz (fwz r m n) f) f g) (tD r m n) m n) = true) : tA r f g m n = [(tsz (fwz r m n) f, spz (t1z (tsz (fwz r m n) f) f) (t0z (tsz (fwz r m n) f) f g) (tD r m n) m n)] := if_pos ⟨h, h2⟩
theorem tA_out {r f g : Int → Int} {m n : Int} (h : ¬ hoz (t1z (tsz (fwz r m n) f) f) (t0z (tsz (fwz r m n) f) f g) (spz (t1z (tsz (fwz r m n) f) f) (t0z (tsz (fwz r m n) f) f g) (tD r m n) m n) = true) : tA r f g m n = [] := if_neg (fun q => h q.2)
theorem tA_big {r f g : Int → Int} {m n : Int} (h : 12 < tD r m n) : tA r f g m n = [] := if_neg (fun q => by omega)
