/-! MATH 1: numbers modulo 32003, rows (functions on Int that are 0 outside), fills, sums. -/
def md (z : Int) : Int := z % 32003
theorem md_r (z : Int) : 0 ≤ md z ∧ md z < 32003 := by unfold md; omega
theorem md_id {z : Int} (h : 0 ≤ z ∧ z < 32003) : md z = z := by unfold md; omega
theorem md_md (z : Int) : md (md z) = md z := md_id (md_r z)
theorem md_add (a b : Int) : md (md a + md b) = md (a + b) := by unfold md; omega
theorem md_addl (a b : Int) : md (md a + b) = md (a + b) := by unfold md; omega
theorem md_addr (a b : Int) : md (a + md b) = md (a + b) := by unfold md; omega
theorem md_subl (a b : Int) : md (md a - b) = md (a - b) := by unfold md; omega
theorem md_subr (a b : Int) : md (a - md b) = md (a - b) := by unfold md; omega
theorem md_mull (a b : Int) : md (md a * b) = md (a * b) := by unfold md; rw [Int.mul_emod, Int.emod_emod_of_dvd _ (Int.dvd_refl _), ← Int.mul_emod]
theorem md_mulr (a b : Int) : md (a * md b) = md (a * b) := by rw [Int.mul_comm, md_mull, Int.mul_comm]
theorem tm_cases (v : Int) : (0 ≤ v ∧ v.tmod 32003 = v % 32003) ∨ (v < 0 ∧ v.tmod 32003 = -((-v) % 32003)) := by
  by_cases h : 0 ≤ v
  · exact Or.inl ⟨h, Int.tmod_eq_emod_of_nonneg h⟩
  · refine Or.inr ⟨by omega, ?_⟩
    have e : v = -(-v) := by omega
    rw [e, Int.neg_tmod, Int.tmod_eq_emod_of_nonneg (by omega)]
    congr 1
    omega
theorem tm_bd (v : Int) : -32003 < v.tmod 32003 ∧ v.tmod 32003 < 32003 := by
  rcases tm_cases v with ⟨_, h⟩ | ⟨_, h⟩ <;> rw [h] <;> omega
theorem tm_pos {v : Int} (h : 0 ≤ v.tmod 32003) : v.tmod 32003 = md v := by
  unfold md
  rcases tm_cases v with ⟨h1, h2⟩ | ⟨h1, h2⟩ <;> rw [h2] at h ⊢ <;> omega
theorem tm_neg {v : Int} (h : ¬ 0 ≤ v.tmod 32003) : v.tmod 32003 + 32003 = md v := by
  unfold md
  rcases tm_cases v with ⟨h1, h2⟩ | ⟨h1, h2⟩ <;> rw [h2] at h ⊢ <;> omega
theorem tm_nn {v : Int} (h : 0 ≤ v) : v.tmod 32003 = md v := Int.tmod_eq_emod_of_nonneg h
/-- a row: numbers at 0 .. n-1, nothing beyond -/
def RoW (n : Nat) (f : Int → Int) : Prop := ∀ k : Int, (0 ≤ f k ∧ f k < 32003) ∧ (k < 0 ∨ (n : Int) ≤ k → f k = 0)
theorem RoW.r {n : Nat} {f : Int → Int} (h : RoW n f) (k : Int) : 0 ≤ f k ∧ f k < 32003 := (h k).1
theorem RoW.z {n : Nat} {f : Int → Int} (h : RoW n f) {k : Int} (hk : k < 0 ∨ (n : Int) ≤ k) : f k = 0 := (h k).2 hk
theorem RoW.sT {n : Nat} {f : Int → Int} (h : RoW n f) {k x : Int} (hk : 0 ≤ k ∧ k < (n : Int)) (hx : 0 ≤ x ∧ x < 32003) : RoW n (sT f k x) := by
  intro j
  show (0 ≤ (if j = k then x else f j) ∧ (if j = k then x else f j) < 32003) ∧ (_ → (if j = k then x else f j) = 0)
  by_cases e : j = k
  · rw [if_pos e]
    exact ⟨hx, fun q => by omega⟩
  · rw [if_neg e]
    exact h j
theorem RoW.zero (n : Nat) : RoW n (fun _ => 0) := fun _ => ⟨⟨Int.le_refl 0, by show (0 : Int) < 32003; omega⟩, fun _ => rfl⟩
/-- what set does -/
def rset (n : Nat) (f : Int → Int) (k x : Int) : Int → Int := if 0 ≤ k ∧ k < (n : Int) then sT f k x else f
theorem rset_in {n : Nat} {f : Int → Int} {k x : Int} (h : 0 ≤ k ∧ k < (n : Int)) : rset n f k x = sT f k x := if_pos h
theorem rset_out {n : Nat} {f : Int → Int} {k x : Int} (h : ¬ (0 ≤ k ∧ k < (n : Int))) : rset n f k x = f := if_neg h
theorem RoW.rset {n : Nat} {f : Int → Int} (h : RoW n f) {k x : Int} (hx : 0 ≤ x ∧ x < 32003) : RoW n (rset n f k x) := by
  by_cases hk : 0 ≤ k ∧ k < (n : Int)
  · rw [rset_in hk]; exact h.sT hk hx
  · rw [rset_out hk]; exact h
/-- f, filled by g below i -/
def fL (g f : Int → Int) (i : Int) : Int → Int := fun j => if 0 ≤ j ∧ j < i then g j else f j
theorem fL_0 (g f : Int → Int) : fL g f 0 = f := by funext j; exact if_neg (by omega)
theorem fL_st (g f : Int → Int) {i x : Int} (hi : 0 ≤ i) (hx : x = g i) : sT (fL g f i) i x = fL g f (i + 1) := by
  funext j
  show (if j = i then x else if 0 ≤ j ∧ j < i then g j else f j) = (if 0 ≤ j ∧ j < i + 1 then g j else f j)
  by_cases e : j = i
  · rw [if_pos e, if_pos (by omega), hx, e]
  · rw [if_neg e]
    by_cases e2 : 0 ≤ j ∧ j < i
    · rw [if_pos e2, if_pos (by omega)]
    · rw [if_neg e2, if_neg (by omega)]
theorem fL_n {n : Nat} {g f : Int → Int} (hf : RoW n f) (hg : ∀ k : Int, (k < 0 ∨ (n : Int) ≤ k) → g k = 0) : fL g f n = g := by
  funext j
  show (if 0 ≤ j ∧ j < (n : Int) then g j else f j) = g j
  by_cases e : 0 ≤ j ∧ j < (n : Int)
  · rw [if_pos e]
  · rw [if_neg e, hf.z (by omega), hg j (by omega)]
theorem RoW.fL {n : Nat} {g f : Int → Int} (hf : RoW n f) (hg : ∀ k, 0 ≤ g k ∧ g k < 32003) {i : Int} (hi : i ≤ (n : Int)) : RoW n (fL g f i) := by
  intro j
  show (0 ≤ (if 0 ≤ j ∧ j < i then g j else f j) ∧ (if 0 ≤ j ∧ j < i then g j else f j) < 32003) ∧ (_ → (if 0 ≤ j ∧ j < i then g j else f j) = 0)
  by_cases e : 0 ≤ j ∧ j < i
  · rw [if_pos e]
    exact ⟨hg j, fun q => by omega⟩
  · rw [if_neg e]
    exact hf j
/-- g where a row of n has numbers, 0 beyond -/
def cuT (n : Nat) (g : Int → Int) : Int → Int := fun j => if 0 ≤ j ∧ j < (n : Int) then g j else 0
theorem cuT_in {n : Nat} {g : Int → Int} {k : Int} (h : 0 ≤ k ∧ k < (n : Int)) : cuT n g k = g k := if_pos h
theorem cuT_out {n : Nat} {g : Int → Int} {k : Int} (h : k < 0 ∨ (n : Int) ≤ k) : cuT n g k = 0 := if_neg (by omega)
theorem fL_cut {n : Nat} {g f : Int → Int} (hf : RoW n f) : fL (cuT n g) f n = cuT n g := fL_n hf (fun _ h => cuT_out h)
theorem RoW.cuT (n : Nat) {g : Int → Int} (hg : ∀ k, 0 ≤ g k ∧ g k < 32003) : RoW n (cuT n g) := by
  intro j
  by_cases e : 0 ≤ j ∧ j < (n : Int)
  · rw [cuT_in e]; exact ⟨hg j, fun q => by omega⟩
  · rw [cuT_out (by omega)]; exact ⟨by omega, fun _ => rfl⟩
/-- the sum of the first n -/
def suM (h : Int → Int) : Nat → Int
  | 0 => 0
  | n + 1 => suM h n + h (n : Int)
theorem suM_step (h : Int → Int) {i : Int} (hi : 0 ≤ i) : suM h i.toNat + h i = suM h (i + 1).toNat := by
  have e : (i + 1).toNat = i.toNat + 1 := by omega
  rw [e]
  show _ = suM h i.toNat + h ((i.toNat : Nat) : Int)
  rw [Int.toNat_of_nonneg hi]
theorem suM_bd {h : Int → Int} {M : Int} (hM : ∀ k, 0 ≤ h k ∧ h k ≤ M) (n : Nat) : 0 ≤ suM h n ∧ suM h n ≤ M * (n : Int) := by
  induction n with
  | zero => exact ⟨Int.le_refl _, by show (0 : Int) ≤ M * ((0 : Nat) : Int); simp⟩
  | succ n ih =>
    have h1 := hM (n : Int)
    have e : M * ((n + 1 : Nat) : Int) = M * (n : Int) + M := by rw [Int.natCast_add, Int.mul_add]; simp
    show 0 ≤ suM h n + h (n : Int) ∧ suM h n + h (n : Int) ≤ M * ((n + 1 : Nat) : Int)
    rw [e]
    omega
theorem mul_bd {a b : Int} (ha : 0 ≤ a ∧ a < 32003) (hb : 0 ≤ b ∧ b < 32003) : 0 ≤ a * b ∧ a * b ≤ 1024128004 := by
  refine ⟨Int.mul_nonneg ha.1 hb.1, ?_⟩
  have h1 : a * b ≤ 32002 * b := Int.mul_le_mul_of_nonneg_right (by omega) hb.1
  omega
theorem mulc_bd {a b : Int} (c : Int) (ha : 0 ≤ a ∧ a ≤ c) (hb : 0 ≤ b ∧ b < 32003) : 0 ≤ a * b ∧ a * b ≤ c * 32002 := by
  refine ⟨Int.mul_nonneg ha.1 hb.1, ?_⟩
  have h1 : a * b ≤ c * b := Int.mul_le_mul_of_nonneg_right ha.2 hb.1
  have h2 : c * b ≤ c * 32002 := Int.mul_le_mul_of_nonneg_left (by omega) (by omega)
  omega
/-- the loop of raise -/
def rsz : Nat → Int → Int → Int → Int
  | 0, _, _, pr => pr
  | n + 1, e, sq, pr => rsz n (e / 2) (md (sq * sq)) (if e % 2 = 1 then md (pr * sq) else pr)
def ivz (v : Int) : Int := rsz 15 32001 (md v) 1
def rtz (v : Int) : Int := rsz 15 8001 (md v) 1
def lrz (v : Int) : Int := if md (rtz v * rtz v) = v then (if md (-rtz v) < rtz v then md (-rtz v) else rtz v) else -1
theorem rsz_r (n : Nat) : ∀ (e sq pr : Int), (0 ≤ pr ∧ pr < 32003) → 0 ≤ rsz n e sq pr ∧ rsz n e sq pr < 32003 := by
  induction n with
  | zero => intro e sq pr h; exact h
  | succ n ih =>
    intro e sq pr h
    show 0 ≤ rsz n (e / 2) (md (sq * sq)) (if e % 2 = 1 then md (pr * sq) else pr) ∧ _
    refine ih _ _ _ ?_
    by_cases c : e % 2 = 1
    · rw [if_pos c]; exact md_r _
    · rw [if_neg c]; exact h
theorem ivz_r (v : Int) : 0 ≤ ivz v ∧ ivz v < 32003 := rsz_r _ _ _ _ (by omega)
theorem rtz_r (v : Int) : 0 ≤ rtz v ∧ rtz v < 32003 := rsz_r _ _ _ _ (by omega)
theorem sh_k : ∀ n, n < 15 → ((nI n &&& 31).toBitVec.smod 32).toNat = n := by decide +kernel
theorem bit_at {e b : Int} (he : 0 ≤ e ∧ e < 32768) (hb : 0 ≤ b ∧ b < 15) : ((iZ e) >>> (iZ b &&& 31)) &&& (iZ 1) = iZ (e / 2 ^ b.toNat % 2) := by
  obtain ⟨n, rfl⟩ : ∃ n : Nat, e = (n : Int) := ⟨e.toNat, by omega⟩
  obtain ⟨k, rfl⟩ : ∃ k : Nat, b = (k : Int) := ⟨b.toNat, by omega⟩
  have e1 : iZ (n : Int) = nI n := (iZ_n n).symm
  have e2 : iZ (k : Int) = nI k := (iZ_n k).symm
  rw [e1, e2, pk_shrN (by omega) _ k (sh_k k (by omega)), pk_andN (Nat.lt_of_le_of_lt (Nat.div_le_self _ _) (by omega)) 1 (by decide)]
  show Int32.ofNat _ = _
  rw [iZ_n, Int.toNat_natCast]
  congr 1
theorem div_step (e : Int) {b : Int} (hb : 0 ≤ b) : e / 2 ^ (b + 1).toNat = e / 2 ^ b.toNat / 2 := by
  have h : (b + 1).toNat = b.toNat + 1 := by omega
  rw [h, Int.pow_succ, Int.ediv_ediv_of_nonneg (Int.le_of_lt (Int.pow_pos (by omega)))]
theorem rsz_step (e : Int) {b sq pr : Int} (hb : 0 ≤ b ∧ b < 15) : rsz (15 - b).toNat (e / 2 ^ b.toNat) sq pr = rsz (15 - (b + 1)).toNat (e / 2 ^ (b + 1).toNat) (md (sq * sq)) (if e / 2 ^ b.toNat % 2 = 1 then md (pr * sq) else pr) := by
  have h : (15 - b).toNat = (15 - (b + 1)).toNat + 1 := by omega
  rw [h, div_step e hb.1]
  rfl
/-- the highest place below m where f isn't 0, or -1 -/
def tpz (f : Int → Int) : Nat → Int
  | 0 => -1
  | m + 1 => if f (m : Int) ≠ 0 then (m : Int) else tpz f m
theorem tpz_hit {f : Int → Int} {i : Int} (hi : 0 ≤ i) (h : f i ≠ 0) : tpz f (i + 1).toNat = i := by
  have e : (i + 1).toNat = i.toNat + 1 := by omega
  rw [e]
  show (if f ((i.toNat : Nat) : Int) ≠ 0 then ((i.toNat : Nat) : Int) else _) = i
  rw [Int.toNat_of_nonneg hi, if_pos h]
theorem tpz_miss {f : Int → Int} {i : Int} (hi : 0 ≤ i) (h : f i = 0) : tpz f (i + 1).toNat = tpz f (i + -1 + 1).toNat := by
  have e : (i + 1).toNat = i.toNat + 1 := by omega
  have e2 : (i + -1 + 1).toNat = i.toNat := by omega
  rw [e, e2]
  show (if f ((i.toNat : Nat) : Int) ≠ 0 then _ else _) = _
  rw [Int.toNat_of_nonneg hi, if_neg (fun q => q h)]
theorem tpz_r (f : Int → Int) (m : Nat) : -1 ≤ tpz f m ∧ tpz f m < (m : Int) := by
  induction m with
  | zero => exact ⟨Int.le_refl _, by show (-1 : Int) < 0; omega⟩
  | succ m ih =>
    show -1 ≤ (if f (m : Int) ≠ 0 then (m : Int) else tpz f m) ∧ (if f (m : Int) ≠ 0 then (m : Int) else tpz f m) < ((m + 1 : Nat) : Int)
    by_cases c : f (m : Int) ≠ 0
    · rw [if_pos c]; omega
    · rw [if_neg c]; omega
def slz (f : Int → Int) (k : Int) : Int := md ((k + 1) * f (k + 1))
/-- the slope's number, as large as it comes -/
def slr (f : Int → Int) (k : Int) : Int := (k + 1) * f (k + 1)
theorem slz_r (f : Int → Int) (k : Int) : slz f k = md (slr f k) := rfl
theorem slr_0 {n : Nat} {f : Int → Int} {k : Int} (hf : RoW n f) (h : k + 1 ≤ 0 ∨ (n : Int) ≤ k + 1) : slr f k = 0 := by
  unfold slr
  by_cases e : k + 1 = 0
  · rw [e, Int.zero_mul]
  · rw [hf.z (by omega), Int.mul_zero]
theorem slr_bd {n : Nat} {f : Int → Int} (hn : (n : Int) ≤ 41) (hf : RoW n f) (k : Int) : 0 ≤ slr f k ∧ slr f k ≤ 1312082 := by
  by_cases e : k + 1 ≤ 0 ∨ (n : Int) ≤ k + 1
  · rw [slr_0 hf e]; omega
  · have h := mulc_bd (a := k + 1) (b := f (k + 1)) 41 (by omega) (hf.r _)
    unfold slr
    omega
theorem lw_bd {a b : Int} (ha : 0 ≤ a ∧ a < 32003) (hb : 0 ≤ b ∧ b ≤ 1312082) : 0 ≤ a * b ∧ a * b ≤ 41989248164 := by
  have h := mulc_bd (a := b) (b := a) 1312082 hb ha
  rw [Int.mul_comm]
  omega
theorem suM_mdc {h1 h2 : Int → Int} (h : ∀ i, md (h1 i) = md (h2 i)) (n : Nat) : md (suM h1 n) = md (suM h2 n) := by
  induction n with
  | zero => rfl
  | succ n ih =>
    show md (suM h1 n + h1 (n : Int)) = md (suM h2 n + h2 (n : Int))
    rw [← md_add, ih, h, md_add]
def tmz (n : Nat) (f g : Int → Int) (k : Int) : Int := md (suM (fun i => f i * g (k - i)) n)
/-- the inner loop of shift: places low + c - 1 down to low -/
def shI (low s : Int) : Nat → (Int → Int) → (Int → Int)
  | 0, f => f
  | c + 1, f => shI low s c (sT f (low + (c : Int)) (md (f (low + (c : Int)) + s * f (low + (c : Int) + 1))))
/-- its outer loop: c turns are left of n -/
def shO (n : Nat) (s : Int) : Nat → (Int → Int) → (Int → Int)
  | 0, f => f
  | c + 1, f => shO n s c (shI ((n : Int) - (c : Int) - 1) s c f)
theorem RoW.shI {n : Nat} {low s : Int} (hl : 0 ≤ low) : ∀ (c : Nat) {f : Int → Int}, RoW n f → low + (c : Int) ≤ (n : Int) → RoW n (shI low s c f) := by
  intro c
  induction c with
  | zero => intro f h _; exact h
  | succ c ih =>
    intro f h hc
    exact ih (h.sT (by omega) (md_r _)) (by omega)
theorem RoW.shO {n : Nat} {s : Int} : ∀ (c : Nat) {f : Int → Int}, RoW n f → c ≤ n → RoW n (shO n s c f) := by
  intro c
  induction c with
  | zero => intro f h _; exact h
  | succ c ih =>
    intro f h hc
    exact ih (RoW.shI (by omega) c h (by omega)) (by omega)
section ZM
variable {p : Program} {l : Launch} {e : Env} {R : Room} {s : State} {m : MethodId} {args : Array Value} {below : List Frame} {meth : Method} {c : Code} {H : Heap} {locs : List Loc} {cells slots : Nat} {Q : State → Prop}
variable {cc : ByteArray} {pc : Nat} {ls : Array Slot} {rest : List Value}
theorem z_lremmd (hexec : p.tables.exec = Jvm.exec) (hb : c.code = cc) {x : Int} (hdg : decode cc pc = .ok (.lrem, 1)) (hx : 0 ≤ x ∧ x < 9223372036854775808) (k : W p l e R s m args below meth c H locs cells slots Q (F0 m (pc + 1) ls (.long (lZ (md x)) :: rest))) : W p l e R s m args below meth c H locs cells slots Q (F0 m pc ls (.long (lZ 32003) :: .long (lZ x) :: rest)) := z_lrem hexec hb hdg (by omega) (by decide) (by decide) (by rw [tm_nn hx.1]; exact k)
end ZM
theorem mulr_bd {a b : Int} (ha : -1000 ≤ a ∧ a ≤ 1000) (hb : 0 ≤ b ∧ b < 32003) : -32003000 ≤ a * b ∧ a * b ≤ 32003000 := by
  have h1 : a * b ≤ 1000 * b := Int.mul_le_mul_of_nonneg_right ha.2 hb.1
  have h2 : (-1000) * b ≤ a * b := Int.mul_le_mul_of_nonneg_right ha.1 hb.1
  omega
theorem sh_open {n : Nat} {v low : Int} {g : Int → Int} (h : 0 ≤ low ∧ low < (n : Int)) : shO n v ((n : Int) - (low + 1)).toNat (shI low v ((n : Int) - 2 - low + 1).toNat g) = shO n v ((n : Int) - low).toNat g := by
  obtain ⟨c, hc⟩ : ∃ c : Nat, (c : Int) = (n : Int) - low - 1 := ⟨((n : Int) - low - 1).toNat, by omega⟩
  have e1 : ((n : Int) - (low + 1)).toNat = c := by omega
  have e2 : ((n : Int) - 2 - low + 1).toNat = c := by omega
  have e3 : ((n : Int) - low).toNat = c + 1 := by omega
  have e4 : low = (n : Int) - (c : Int) - 1 := by omega
  rw [e1, e2, e3, e4]
  rfl
theorem sh_in {n : Nat} {v low i : Int} {g : Int → Int} (h : low ≤ i) : shO n v ((n : Int) - (low + 1)).toNat (shI low v (i + -1 - low + 1).toNat (sT g i (md (g i + v * g (i + 1))))) = shO n v ((n : Int) - (low + 1)).toNat (shI low v (i - low + 1).toNat g) := by
  obtain ⟨c, hc⟩ : ∃ c : Nat, (c : Int) = i - low := ⟨(i - low).toNat, by omega⟩
  have e1 : (i + -1 - low + 1).toNat = c := by omega
  have e2 : (i - low + 1).toNat = c + 1 := by omega
  have e3 : i = low + (c : Int) := by omega
  rw [e1, e2, e3]
  rfl
def lwz (f g y : Int → Int) (k : Int) : Int := md (suM (fun i => f i * slz y (k - i)) 3 + suM (fun i => g i * y (k - i)) 5)
theorem lwz_r (f g y : Int → Int) (k : Int) : lwz f g y k = md (suM (fun i => f i * slr y (k - i)) 3 + suM (fun i => g i * y (k - i)) 5) := by
  unfold lwz
  rw [← md_addl, suM_mdc (h1 := fun i => f i * slz y (k - i)) (h2 := fun i => f i * slr y (k - i)) (fun i => md_mulr (f i) (slr y (k - i))) 3, md_addl]
def alz (f g y : Int → Int) (k : Int) : Int := md ((k + 2) * (k + 1) * y (k + 2) + lwz f g y k)
theorem al_bd {k z : Int} (hk : -100 ≤ k ∧ k ≤ 100) (hz : 0 ≤ z ∧ z < 32003) : -1000000000 ≤ (k + 2) * (k + 1) * z ∧ (k + 2) * (k + 1) * z ≤ 1000000000 := by
  have h1 : (k + 2) * (k + 1) = k * k + 3 * k + 2 := by
    rw [Int.add_mul, Int.mul_add, Int.mul_one, Int.mul_add]; omega
  have h2 : 0 ≤ k * k := by
    rcases Int.le_total 0 k with h | h
    · exact Int.mul_nonneg h h
    · exact Int.mul_nonneg_of_nonpos_of_nonpos h h
  have h3 : k * k ≤ 10000 := by
    rcases Int.le_total 0 k with h | h
    · have := Int.mul_le_mul_of_nonneg_right (a := k) (b := 100) (c := k) (by omega) h
      omega
    · have := Int.mul_le_mul_of_nonneg_right (a := -k) (b := 100) (c := -k) (by omega) (by omega)
      rw [Int.neg_mul_neg] at this
      omega
  generalize (k + 2) * (k + 1) = q at h1 ⊢
  have a1 : q * z ≤ 10302 * z := Int.mul_le_mul_of_nonneg_right (by omega) hz.1
  have a2 : (-298) * z ≤ q * z := Int.mul_le_mul_of_nonneg_right (by omega) hz.1
  omega
def t1z (u f : Int → Int) : Int → Int := cuT 3 (fun i => md (2 * u i + f i))
def t0z (u f g : Int → Int) : Int → Int := cuT 5 (fun i => md (slz u i + tmz 3 u u i + tmz 3 f u i + g i))
theorem t0_at (u : Int → Int) (i a b c : Int) : md (slr u i + a + b + c) = md (slz u i + a + b + c) := by
  rw [slz_r]
  unfold md
  omega
theorem re_at (f : Int → Int) (i a c : Int) : md (8001 * a + 16002 * slr f i - c) = md (8001 * a + 16002 * slz f i - c) := by
  rw [slz_r]
  unfold md
  omega
def tsz (w f : Int → Int) : Int → Int := cuT 3 (fun i => md (w i - 16002 * f i))
theorem t1z_row (u f : Int → Int) : RoW 3 (t1z u f) := RoW.cuT 3 (fun _ => md_r _)
theorem t0z_row (u f g : Int → Int) : RoW 5 (t0z u f g) := RoW.cuT 5 (fun _ => md_r _)
theorem tsz_row (w f : Int → Int) : RoW 3 (tsz w f) := RoW.cuT 3 (fun _ => md_r _)
/-- whether the first n are 0 -/
def hob (a : Int → Int) : Nat → Bool
  | 0 => true
  | n + 1 => hob a n && (a (n : Int) == 0)
theorem hob_t {a : Int → Int} {n : Nat} (h : ∀ j : Int, 0 ≤ j → j < (n : Int) → a j = 0) : hob a n = true := by
  induction n with
  | zero => rfl
  | succ n ih =>
    show (hob a n && (a (n : Int) == 0)) = true
    rw [ih (fun j h0 h1 => h j h0 (by omega)), h (n : Int) (by omega) (by omega)]
    rfl
theorem hob_f {a : Int → Int} {n : Nat} {j : Int} (h0 : 0 ≤ j) (h1 : j < (n : Int)) (h : ¬ a j = 0) : hob a n = false := by
  induction n with
  | zero => omega
  | succ n ih =>
    show (hob a n && (a (n : Int) == 0)) = false
    by_cases e : j = (n : Int)
    · subst e
      rw [show (a (n : Int) == 0) = false from by simpa using h, Bool.and_false]
    · rw [ih (by omega), Bool.false_and]
theorem hob_iff {a : Int → Int} {n : Nat} : hob a n = true ↔ ∀ j : Int, 0 ≤ j → j < (n : Int) → a j = 0 := by
  refine ⟨fun h j h0 h1 => ?_, hob_t⟩
  by_cases c : a j = 0
  · exact c
  · rw [hob_f h0 h1 c] at h; cases h
def hoz (tf tz y : Int → Int) : Bool := hob (alz tf tz y) 17
/-- solve's loop: places c - 1 down to 0 -/
def soz (tf tz : Int → Int) (d m n : Int) : Nat → (Int → Int) → (Int → Int)
  | 0, y => y
  | c + 1, y => soz tf tz d m n c (sT y (c : Int) (md (alz tf tz y ((c : Int) + n - 1) * ivz (md (2 * m * (d - (c : Int)))))))
def spz (tf tz : Int → Int) (d m n : Int) : Int → Int := soz tf tz d m n d.toNat (sT (fun _ => 0) d 1)
theorem RoW.soz {tf tz : Int → Int} {d m n : Int} : ∀ (c : Nat) {y : Int → Int}, RoW 13 y → c ≤ 13 → RoW 13 (soz tf tz d m n c y) := by
  intro c
  induction c with
  | zero => intro y h _; exact h
  | succ c ih =>
    intro y h hc
    exact ih (h.sT (by omega) (md_r _)) (by omega)
theorem one_row {k : Int} (hk : 0 ≤ k ∧ k ≤ 12) : RoW 13 (sT (fun _ => 0) k 1) := (RoW.zero 13).sT (by omega) (by omega)
theorem spz_row {tf tz : Int → Int} {d m n : Int} (hd : 0 ≤ d ∧ d ≤ 12) : RoW 13 (spz tf tz d m n) := RoW.soz _ (one_row hd) (by omega)
theorem so_step {tf tz y : Int → Int} {d m n k : Int} (hk : 0 ≤ k) : soz tf tz d m n (k + -1 + 1).toNat (sT y k (md (alz tf tz y (k + n - 1) * ivz (md (2 * m * (d - k)))))) = soz tf tz d m n (k + 1).toNat y := by
  obtain ⟨c, rfl⟩ : ∃ c : Nat, k = (c : Int) := ⟨k.toNat, by omega⟩
  have e1 : ((c : Int) + -1 + 1).toNat = c := by omega
  have e2 : ((c : Int) + 1).toNat = c + 1 := by omega
  rw [e1, e2]
  rfl
theorem two_bd {m q : Int} (hm : 0 ≤ m ∧ m < 32003) (hq : 0 ≤ q ∧ q ≤ 100) : 0 ≤ 2 * m * q ∧ 2 * m * q ≤ 6400600 := by
  have h1 : 2 * m * q ≤ 64004 * q := Int.mul_le_mul_of_nonneg_right (by omega) hq.1
  exact ⟨Int.mul_nonneg (by omega) hq.1, by omega⟩
/-- the REST as the class fills it -/
def rez (f g : Int → Int) : Int → Int := cuT 5 (fun i => md (8001 * tmz 3 f f i + 16002 * slz f i - g i))
theorem rez_row (f g : Int → Int) : RoW 5 (rez f g) := RoW.cuT 5 (fun _ => md_r _)
/-- fillW's loop: places c - 1 down to 0 -/
def fwR (r : Int → Int) (n q : Int) : Nat → (Int → Int) → (Int → Int)
  | 0, w => w
  | c + 1, w => fwR r n q c (sT w (c : Int) (md ((r (n + (c : Int)) - tmz 3 w w (n + (c : Int))) * q)))
def fwz (r : Int → Int) (m n : Int) : Int → Int := fwR r n (ivz (md (2 * m))) n.toNat (sT (fun _ => 0) n m)
theorem fw_step {r w : Int → Int} {n q k : Int} (hk : 0 ≤ k) : fwR r n q (k + -1 + 1).toNat (sT w k (md ((r (n + k) - tmz 3 w w (n + k)) * q))) = fwR r n q (k + 1).toNat w := by
  obtain ⟨c, rfl⟩ : ∃ c : Nat, k = (c : Int) := ⟨k.toNat, by omega⟩
  have e1 : ((c : Int) + -1 + 1).toNat = c := by omega
  have e2 : ((c : Int) + 1).toNat = c + 1 := by omega
  rw [e1, e2]
  rfl
theorem RoW.fwR {r : Int → Int} {n q : Int} : ∀ (c : Nat) {y : Int → Int}, RoW 3 y → c ≤ 3 → RoW 3 (fwR r n q c y) := by
  intro c
  induction c with
  | zero => intro y h _; exact h
  | succ c ih =>
    intro y h hc
    exact ih (h.sT (by omega) (md_r _)) (by omega)
theorem fwz_row {r : Int → Int} {m n : Int} (hm : 0 ≤ m ∧ m < 32003) (hn : 0 ≤ n ∧ n ≤ 2) : RoW 3 (fwz r m n) := RoW.fwR _ ((RoW.zero 3).sT (by omega) hm) (by omega)
/-- TRIED as the class finds it -/
def dz (r w : Int → Int) (m n : Int) : Int := md ((md (r (n - 1) - tmz 3 w w (n - 1)) * ivz m - n) * 16002)
theorem fwm_bd {a b q : Int} (ha : 0 ≤ a ∧ a < 32003) (hb : 0 ≤ b ∧ b < 32003) (hq : 0 ≤ q ∧ q < 32003) : -2000000000 ≤ (a - b) * q ∧ (a - b) * q ≤ 2000000000 := by
  have h1 := mul_bd ha hq
  have h2 := mul_bd hb hq
  rw [Int.sub_mul]
  omega
/-- what tryRoot finds for a root m: w, TRIED, u, P, and whether it is an ANSWER -/
def tD (r : Int → Int) (m n : Int) : Int := dz r (fwz r m n) m n
def tU (r f : Int → Int) (m n : Int) : Int → Int := tsz (fwz r m n) f
def tP (r f g : Int → Int) (m n : Int) : Int → Int := spz (t1z (tU r f m n) f) (t0z (tU r f m n) f g) (tD r m n) m n
def tH (r f g : Int → Int) (m n : Int) : Bool := hoz (t1z (tU r f m n) f) (t0z (tU r f m n) f g) (tP r f g m n)
def tA (r f g : Int → Int) (m n : Int) : List ((Int → Int) × (Int → Int)) := if tD r m n ≤ 12 ∧ tH r f g m n = true then [(tU r f m n, tP r f g m n)] else []
theorem tD_r (r : Int → Int) (m n : Int) : 0 ≤ tD r m n ∧ tD r m n < 32003 := md_r _
theorem dz_bd {a q n : Int} (ha : 0 ≤ a ∧ a < 32003) (hq : 0 ≤ q ∧ q < 32003) (hn : 0 ≤ n ∧ n ≤ 2) : -100000 ≤ (a * q - n) * 16002 ∧ (a * q - n) * 16002 ≤ 16400000000000 := by
  have h := mul_bd ha hq
  omega
/-- KIND as the class finds it -/
def kdz (f g : Int → Int) : Int := if tpz (rez f g) 5 < 0 then 0 else if tpz (rez f g) 5 % 2 ≠ 0 then 1 else if lrz (rez f g (tpz (rez f g) 5)) < 0 then 2 else 3
/-- the ROOT that is less, half the REST's degree -/
def ltz (f g : Int → Int) : Int := lrz (rez f g (tpz (rez f g) 5))
def nnz (f g : Int → Int) : Int := tpz (rez f g) 5 / 2
/-- the ANSWERS as the class finds them -/
def anz (f g : Int → Int) : List ((Int → Int) × (Int → Int)) := if kdz f g = 0 then [(tsz (fun _ => 0) f, sT (fun _ => 0) 0 1), (tsz (fun _ => 0) f, sT (fun _ => 0) 1 1)] else if kdz f g = 3 then tA (rez f g) f g (ltz f g) (nnz f g) ++ tA (rez f g) f g (32003 - ltz f g) (nnz f g) else []
def rw10 (v eu ep ef ez lu lp lf lz : Int → Int) : Prop := RoW 3 v ∧ RoW 3 eu ∧ RoW 13 ep ∧ RoW 3 ef ∧ RoW 5 ez ∧ RoW 3 lu ∧ RoW 13 lp ∧ RoW 3 lf ∧ RoW 5 lz
/-- what a study tells of f and g -/
def stP (f g : Int → Int) (kd t0 t1 ct : Int) (r eu ep lu lp : Int → Int) : Prop := r = rez f g ∧ kd = kdz f g ∧ (kd = 3 → t0 = tD (rez f g) (ltz f g) (nnz f g) ∧ t1 = tD (rez f g) (32003 - ltz f g) (nnz f g)) ∧ ct = ((anz f g).length : Int) ∧ (0 < ct → (anz f g)[0]? = some (eu, ep)) ∧ (1 < ct → (anz f g)[1]? = some (lu, lp))
theorem lrz_r {v : Int} (hv : 0 ≤ v ∧ v < 32003) : -1 ≤ lrz v ∧ lrz v < 32003 := by
  unfold lrz
  have h1 := rtz_r v
  have h2 := md_r (-rtz v)
  split
  · split <;> omega
  · omega
theorem lrz_0 {v : Int} (hv : 0 < v ∧ v < 32003) (h : 0 ≤ lrz v) : 0 < lrz v := by
  unfold lrz at h ⊢
  have h1 := rtz_r v
  split at h
  · rename_i c
    rw [if_pos c]
    have h3 : rtz v ≠ 0 := fun q => by rw [q] at c; unfold md at c; omega
    split
    · unfold md; omega
    · omega
  · omega
theorem tpz_ne {f : Int → Int} {m : Nat} (h : 0 ≤ tpz f m) : f (tpz f m) ≠ 0 := by
  induction m with
  | zero => exact absurd (show (0 : Int) ≤ -1 from h) (by omega)
  | succ m ih =>
    by_cases c : f (m : Int) ≠ 0
    · rw [show tpz f (m + 1) = (m : Int) from if_pos c]; exact c
    · rw [show tpz f (m + 1) = tpz f m from if_neg c] at h ⊢; exact ih h
theorem top_r (f g : Int → Int) : -1 ≤ tpz (rez f g) 5 ∧ tpz (rez f g) 5 < 5 := tpz_r _ 5
theorem tm2 {z : Int} (h : 0 ≤ z) : z.tmod 2 = z % 2 := Int.tmod_eq_emod_of_nonneg h
theorem nn_tdiv {f g : Int → Int} (h : 0 ≤ tpz (rez f g) 5) : (tpz (rez f g) 5).tdiv 2 = nnz f g := Int.tdiv_eq_ediv_of_nonneg h
theorem nn_r {f g : Int → Int} (h : 0 ≤ tpz (rez f g) 5) : 0 ≤ nnz f g ∧ nnz f g ≤ 2 := by
  have := top_r f g
  unfold nnz
  omega
theorem lt_pos {f g : Int → Int} (h : 0 ≤ tpz (rez f g) 5) (h2 : 0 ≤ ltz f g) : 0 < ltz f g := by
  have h3 := tpz_ne h
  have h4 := (rez_row f g).r (tpz (rez f g) 5)
  exact lrz_0 ⟨by omega, h4.2⟩ h2
theorem lt_r (f g : Int → Int) : -1 ≤ ltz f g ∧ ltz f g < 32003 := lrz_r ((rez_row f g).r _)
theorem kd_0 {f g : Int → Int} (h : tpz (rez f g) 5 < 0) : kdz f g = 0 := if_pos h
theorem kd_1 {f g : Int → Int} (h : 0 ≤ tpz (rez f g) 5) (h2 : ¬ (tpz (rez f g) 5).tmod 2 = 0) : kdz f g = 1 := by
  unfold kdz
  rw [tm2 h] at h2
  rw [if_neg (by omega), if_pos h2]
theorem kd_2 {f g : Int → Int} (h : 0 ≤ tpz (rez f g) 5) (h2 : (tpz (rez f g) 5).tmod 2 = 0) (h3 : ¬ 0 ≤ ltz f g) : kdz f g = 2 := by
  unfold kdz
  rw [tm2 h] at h2
  rw [if_neg (by omega), if_neg (fun q => q h2), if_pos (show lrz (rez f g (tpz (rez f g) 5)) < 0 from (by omega : ltz f g < 0))]
theorem kd_3 {f g : Int → Int} (h : 0 ≤ tpz (rez f g) 5) (h2 : (tpz (rez f g) 5).tmod 2 = 0) (h3 : 0 ≤ ltz f g) : kdz f g = 3 := by
  unfold kdz
  rw [tm2 h] at h2
  rw [if_neg (by omega), if_neg (fun q => q h2), if_neg (show ¬ lrz (rez f g (tpz (rez f g) 5)) < 0 from (by omega : ¬ ltz f g < 0))]
theorem stP_0 {f g : Int → Int} (h : tpz (rez f g) 5 < 0) (t0 t1 : Int) : stP f g 0 t0 t1 2 (rez f g) (tsz (fun _ => 0) f) (sT (fun _ => 0) 0 1) (tsz (fun _ => 0) f) (sT (fun _ => 0) 1 1) := by
  have e : anz f g = [(tsz (fun _ => 0) f, sT (fun _ => 0) 0 1), (tsz (fun _ => 0) f, sT (fun _ => 0) 1 1)] := if_pos (kd_0 h)
  refine ⟨rfl, (kd_0 h).symm, fun q => by omega, ?_, fun _ => ?_, fun _ => ?_⟩ <;> rw [e] <;> rfl
theorem stP_n {f g : Int → Int} {kd : Int} (hk : kdz f g = kd) (h : kd = 1 ∨ kd = 2) (t0 t1 : Int) (eu ep lu lp : Int → Int) : stP f g kd t0 t1 0 (rez f g) eu ep lu lp := by
  have e : anz f g = [] := by
    unfold anz
    rw [if_neg (by omega), if_neg (by omega)]
  refine ⟨rfl, hk.symm, fun q => by omega, ?_, fun q => by omega, fun q => by omega⟩
  rw [e]; rfl
theorem tA_y {r f g : Int → Int} {m n : Int} (h : tD r m n ≤ 12) (h2 : tH r f g m n = true) : tA r f g m n = [(tU r f m n, tP r f g m n)] := if_pos ⟨h, h2⟩
theorem tA_n {r f g : Int → Int} {m n : Int} (h : ¬ (tD r m n ≤ 12 ∧ tH r f g m n = true)) : tA r f g m n = [] := if_neg h
theorem stP_3 {f g : Int → Int} (hk : kdz f g = 3) {ct : Int} {eu ep lu lp : Int → Int} (hc : ct = ((tA (rez f g) f g (ltz f g) (nnz f g) ++ tA (rez f g) f g (32003 - ltz f g) (nnz f g)).length : Int)) (h0 : 0 < ct → (tA (rez f g) f g (ltz f g) (nnz f g) ++ tA (rez f g) f g (32003 - ltz f g) (nnz f g))[0]? = some (eu, ep)) (h1 : 1 < ct → (tA (rez f g) f g (ltz f g) (nnz f g) ++ tA (rez f g) f g (32003 - ltz f g) (nnz f g))[1]? = some (lu, lp)) : stP f g 3 (tD (rez f g) (ltz f g) (nnz f g)) (tD (rez f g) (32003 - ltz f g) (nnz f g)) ct (rez f g) eu ep lu lp := by
  have e : anz f g = tA (rez f g) f g (ltz f g) (nnz f g) ++ tA (rez f g) f g (32003 - ltz f g) (nnz f g) := by
    unfold anz
    rw [if_neg (by omega), if_pos hk]
  refine ⟨rfl, hk.symm, fun _ => ⟨rfl, rfl⟩, ?_, ?_, ?_⟩ <;> rw [e]
  · exact hc
  · exact h0
  · exact h1
