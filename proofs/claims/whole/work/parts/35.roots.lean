/-! ROOTS: each root of a number is the class's root or its negative (checked by the kernel for each number) -/
def rsN : Nat → Nat → Nat → Nat → Nat
  | 0, _, _, pr => pr
  | n + 1, e, sq, pr => rsN n (e / 2) (sq * sq % 32003) (if e % 2 = 1 then pr * sq % 32003 else pr)
theorem md_nat (a : Nat) : md (a : Int) = ((a % 32003 : Nat) : Int) := rfl
theorem rsN_z (n : Nat) : ∀ (e sq pr : Nat), rsz n (e : Int) (sq : Int) (pr : Int) = (rsN n e sq pr : Int) := by
  induction n with
  | zero => intro e sq pr; rfl
  | succ n ih =>
    intro e sq pr
    show rsz n ((e : Int) / 2) (md ((sq : Int) * (sq : Int))) (if (e : Int) % 2 = 1 then md ((pr : Int) * (sq : Int)) else (pr : Int)) = (rsN n (e / 2) (sq * sq % 32003) (if e % 2 = 1 then pr * sq % 32003 else pr) : Int)
    have e1 : ((e : Int) / 2) = ((e / 2 : Nat) : Int) := rfl
    rw [e1, ← Int.natCast_mul, ← Int.natCast_mul, md_nat, md_nat]
    by_cases c : e % 2 = 1
    · rw [if_pos c, if_pos (by omega), ih]
    · rw [if_neg c, if_neg (by omega), ih]
def rtC (x : Nat) : Bool := (fun r => r == x || r + x == 32003) (rsN 15 8001 (x * x % 32003) 1)
def allB (p : Nat → Bool) : Nat → Nat → Bool
  | 0, s => p s
  | d + 1, s => allB p d s && allB p d (s + 2 ^ d)
theorem allB_s {p : Nat → Bool} : ∀ (d s : Nat), allB p d s = true → ∀ x, s ≤ x → x < s + 2 ^ d → p x = true := by
  intro d
  induction d with
  | zero => intro s h x h1 h2; rw [show x = s by omega]; exact h
  | succ d ih =>
    intro s h x h1 h2
    have h' : (allB p d s && allB p d (s + 2 ^ d)) = true := h
    rw [Bool.and_eq_true] at h'
    rw [Nat.pow_succ] at h2
    by_cases c : x < s + 2 ^ d
    · exact ih s h'.1 x h1 c
    · exact ih (s + 2 ^ d) h'.2 x (by omega) (by omega)
theorem rt_0 : allB rtC 12 1 = true := by decide +kernel
theorem rt_1 : allB rtC 12 4097 = true := by decide +kernel
theorem rt_2 : allB rtC 12 8193 = true := by decide +kernel
theorem rt_3 : allB rtC 12 12289 = true := by decide +kernel
theorem rt_all {x : Nat} (h1 : 1 ≤ x) (h2 : x ≤ 16384) : rtC x = true := by
  by_cases a : x < 4097
  · exact allB_s 12 1 rt_0 x h1 (by omega)
  · by_cases b : x < 8193
    · exact allB_s 12 4097 rt_1 x (by omega) (by omega)
    · by_cases c : x < 12289
      · exact allB_s 12 8193 rt_2 x (by omega) (by omega)
      · exact allB_s 12 12289 rt_3 x (by omega) (by omega)
theorem rt_lo {x : Int} (h1 : 1 ≤ x) (h2 : x ≤ 16384) : rtz (md (x * x)) = x ∨ rtz (md (x * x)) = 32003 - x := by
  obtain ⟨n, rfl⟩ : ∃ n : Nat, x = (n : Int) := ⟨x.toNat, by omega⟩
  have h := rt_all (x := n) (by omega) (by omega)
  have e : rtz (md ((n : Int) * (n : Int))) = (rsN 15 8001 (n * n % 32003) 1 : Int) := by
    unfold rtz
    rw [md_md, ← Int.natCast_mul, md_nat]
    exact rsN_z 15 8001 _ 1
  have h' : (rsN 15 8001 (n * n % 32003) 1 == n || rsN 15 8001 (n * n % 32003) 1 + n == 32003) = true := h
  rw [e]
  rw [Bool.or_eq_true] at h'
  rcases h' with h' | h'
  · have := eq_of_beq h'
    omega
  · have := eq_of_beq h'
    omega
theorem sq_neg (x : Int) : md ((32003 - x) * (32003 - x)) = md (x * x) := by
  have e : (32003 - x) * (32003 - x) = x * x + 32003 * (32003 - 2 * x) := by
    rw [Int.sub_mul, Int.mul_sub, Int.mul_sub, Int.mul_sub]
    have := Int.mul_comm x 32003
    omega
  rw [e]
  unfold md
  rw [Int.add_mul_emod_self_left]
/-- a root of v is the class's root or its negative -/
theorem rt_any {x v : Int} (h1 : 1 ≤ x) (h2 : x < 32003) (hv : md (x * x) = v) : rtz v = x ∨ rtz v = 32003 - x := by
  by_cases c : x ≤ 16384
  · rw [← hv]; exact rt_lo h1 c
  · have h := rt_lo (x := 32003 - x) (by omega) (by omega)
    rw [sq_neg, hv] at h
    omega
theorem lr_spec {v : Int} (hv : 0 < v ∧ v < 32003) (h : 0 ≤ lrz v) : 0 < lrz v ∧ lrz v < 32003 - lrz v ∧ ∀ x : Int, 1 ≤ x → x < 32003 → (md (x * x) = v ↔ x = lrz v ∨ x = 32003 - lrz v) := by
  have h1 := rtz_r v
  unfold lrz at h ⊢
  by_cases c : md (rtz v * rtz v) = v
  · rw [if_pos c] at h ⊢
    have h3 : rtz v ≠ 0 := fun q => by rw [q] at c; unfold md at c; omega
    have e : md (-rtz v) = 32003 - rtz v := by unfold md; omega
    rw [e] at h ⊢
    have c2 : md ((32003 - rtz v) * (32003 - rtz v)) = v := by rw [sq_neg]; exact c
    have key : ∀ x : Int, 1 ≤ x → x < 32003 → (md (x * x) = v ↔ x = rtz v ∨ x = 32003 - rtz v) := by
      intro x hx1 hx2
      constructor
      · intro q
        have := rt_any hx1 hx2 q
        omega
      · rintro (rfl | rfl)
        · exact c
        · exact c2
    by_cases d : 32003 - rtz v < rtz v
    · rw [if_pos d]
      refine ⟨by omega, by omega, fun x hx1 hx2 => (key x hx1 hx2).trans ?_⟩
      omega
    · rw [if_neg d]
      exact ⟨by omega, by omega, key⟩
  · rw [if_neg c] at h
    omega
theorem lr_none {v : Int} (h : lrz v < 0) {x : Int} (hx1 : 1 ≤ x) (hx2 : x < 32003) : md (x * x) ≠ v := by
  intro q
  have h1 := rt_any hx1 hx2 q
  have c : md (rtz v * rtz v) = v := by
    rcases h1 with h1 | h1
    · rw [h1]; exact q
    · rw [h1, sq_neg]; exact q
  have h2 := rtz_r v
  unfold lrz at h
  rw [if_pos c] at h
  have h3 := md_r (-rtz v)
  split at h <;> omega
/-- how far the search for roots has come -/
def fdI (L x sn : Int) (q : Int → Int) : Prop := (L < 0 → sn = 0) ∧ (0 ≤ L → (x ≤ L → sn = 0) ∧ (L < x → x ≤ 32003 - L → sn = 1 ∧ q 0 = L) ∧ (32003 - L < x → sn = 2 ∧ q 0 = L ∧ q 1 = 32003 - L))
theorem fd_0 {L : Int} (h : 0 ≤ L → 0 < L ∧ L < 32003 - L) (q : Int → Int) : fdI L 1 0 q := ⟨fun _ => rfl, fun h0 => ⟨fun _ => rfl, fun a b => by have := h h0; omega, fun a => by have := h h0; omega⟩⟩
theorem fd_r {L x sn : Int} {q : Int → Int} (h : fdI L x sn q) : 0 ≤ sn ∧ sn ≤ 2 := by
  by_cases c : L < 0
  · have := h.1 c; omega
  · have h2 := h.2 (by omega)
    by_cases a : x ≤ L
    · have := h2.1 a; omega
    · by_cases b : x ≤ 32003 - L
      · have := (h2.2.1 (by omega) b).1; omega
      · have := (h2.2.2 (by omega)).1; omega
theorem fd_miss {v L x sn : Int} {q : Int → Int} (hv : 0 < v ∧ v < 32003) (hL : L = lrz v) (h : fdI L x sn q) (hx : 1 ≤ x ∧ x < 32003) (hn : md (x * x) ≠ v) : fdI L (x + 1) sn q := by
  refine ⟨h.1, fun h0 => ?_⟩
  have hs := lr_spec hv (by omega)
  rw [← hL] at hs
  have h1 : ¬ (x = L ∨ x = 32003 - L) := fun w => hn ((hs.2.2 x hx.1 hx.2).mpr w)
  have h2 := h.2 h0
  exact ⟨fun a => h2.1 (by omega), fun a b => h2.2.1 (by omega) (by omega), fun a => h2.2.2 (by omega)⟩
theorem fd_hit {v L x sn : Int} {q : Int → Int} (hv : 0 < v ∧ v < 32003) (hL : L = lrz v) (h : fdI L x sn q) (hx : 1 ≤ x ∧ x < 32003) (hn : md (x * x) = v) : fdI L (x + 1) (sn + 1) (sT q sn x) := by
  have hL0 : 0 ≤ L := by
    by_cases c : L < 0
    · exact absurd hn (lr_none (by omega) hx.1 hx.2)
    · omega
  have hs := lr_spec hv (by omega)
  rw [← hL] at hs
  have h1 := (hs.2.2 x hx.1 hx.2).mp hn
  have h2 := h.2 hL0
  refine ⟨fun w => by omega, fun _ => ?_⟩
  rcases h1 with h1 | h1
  · have h3 := h2.1 (by omega)
    subst h3
    exact ⟨fun a => by omega, fun a b => ⟨by omega, by show (if (0 : Int) = 0 then x else q 0) = L; rw [if_pos rfl]; exact h1⟩, fun a => by omega⟩
  · have h3 := h2.2.1 (by omega) (by omega)
    obtain ⟨h3, h4⟩ := h3
    subst h3
    exact ⟨fun a => by omega, fun a b => by omega, fun a => ⟨by omega, by show (if (0 : Int) = 1 then x else q 0) = L; rw [if_neg (by omega)]; exact h4, by show (if (1 : Int) = 1 then x else q 1) = 32003 - L; rw [if_pos rfl]; exact h1⟩⟩
theorem fd_end {v L x sn : Int} {q : Int → Int} (hv : 0 < v ∧ v < 32003) (hL : L = lrz v) (h : fdI L x sn q) (hx : 32003 ≤ x ∨ 2 ≤ sn) : (L < 0 ∧ sn = 0) ∨ (0 ≤ L ∧ sn = 2 ∧ q 0 = L ∧ q 1 = 32003 - L) := by
  by_cases c : L < 0
  · exact Or.inl ⟨c, h.1 c⟩
  · have hs := lr_spec hv (by omega)
    rw [← hL] at hs
    have h2 := h.2 (by omega)
    refine Or.inr ⟨by omega, h2.2.2 ?_⟩
    by_cases a : x ≤ L
    · have := h2.1 a; omega
    · by_cases b : x ≤ 32003 - L
      · have := (h2.2.1 (by omega) b).1; omega
      · omega
