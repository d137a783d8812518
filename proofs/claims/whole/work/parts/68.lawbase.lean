/-! THE CLAIM OUT OF ONE WALK OF THE LAW'S BODY. Your part is whole_start (and what it stands on); all else here is the same for every law, but numbers. -/
def R_law : String := "OrderTwoCasesLaw"
def lw_P (b : Addr) (xs : List Int32) (args : Array Value) (s : State) : Prop := args = #[.ref b] ∧ s.IntsAt b xs ∧ xs.length ≤ 3584 ∧ (Jvm.Cond.and given_1 narrow_1).before args s = true
def lw_Q (_ : Array Value) (s : State) (o : Outcome) (t : State) : Prop := o = .returned (some (.int 1)) ∧ Framed s o t [] 628171 7211590
def lw_Z (below : List Frame) (a : Array Value) (s : State) : State → Prop := fun t => ∃ o, t.status = .running ∧ Ended t below o ∧ lw_Q a s o t
/-- the law's own end, with 1 on the stack, nothing written that was there before, its room as the claim has it -/
theorem lw_ret {p : Program} {l : Launch} {e : Env} {s : State} {m : MethodId} {below : List Frame} {meth : Method} {c : Code} {b : Nat} (hx : p.tables.exec = Jvm.exec) (hb : c.code = code) (hr : meth.sig.returnType = ret) (hlocks : meth.locks = false) {pc : Nat} {H : Heap} {ls : Array Slot} (hdg : decode code pc = .ok (.ireturn, 1)) : W p l e room_1 s m #[Value.ref b] below meth c H [] 628171 7211590 (lw_Z below #[Value.ref b] s) (F0 m pc ls [.int 1]) := by
  intro T hT X
  obtain ⟨fs, hret, hrun, hended, hW, hframe⟩ := X.leave (v := some (.int 1)) (hlocks := hlocks) (fun h => by rw [hr] at h; cases h)
  have hmeth' : T.vm.method? m = some meth := X.method'
  refine ⟨T.setFrames fs, ?_, .returned (some (.int 1)), hrun, hended, rfl, ⟨_, rfl⟩, hW, hframe⟩
  jvm_step X.here [X.here.top, hx, hb, hdg, hmeth', hr, ret, narrow_b1]
  (try refine ⟨rfl, ?_⟩); (try refine ⟨rfl, ?_⟩)
  first | (intro acts; rw [hret _ acts rfl rfl rfl]) | rw [hret _ _ rfl rfl rfl]
  exact Steps.refl _
/-- what holds at the law's entry: the machine, the code, the tables' words (any of lw_tbl by 'hts w (by decide +kernel)'), the script of L ints xs at the cell b, what the Statement gives of the start (any of its parts by flat_of_before) -/
def lw_At (p : Program) (s : State) (m : MethodId) (meth : Method) (c : Code) (b L : Nat) (xs : Nat → Int32) : Prop :=
  p.tables.exec = Jvm.exec ∧ c.code = code ∧ meth.sig.returnType = ret ∧ c.maxLocals = 7 ∧ s.vm.findClass R_law = some m.cls ∧ (∀ w ∈ lw_tbl, w.before #[Value.ref b] s = true) ∧ va_X b L xs s s.heap ∧ b < s.heap.size ∧ meth.locks = false ∧ (Jvm.Cond.and given_1 narrow_1).before #[Value.ref b] s = true
/-! LAW, BASE: the script's ints, the packed longs, the law's world -/
def xz (xs : Nat → Int32) (j : Int) : Int := (xs j.toNat).toInt
theorem xz_r (xs : Nat → Int32) (j : Int) : -2147483648 ≤ xz xs j ∧ xz xs j < 2147483648 := ⟨Int32.le_toInt _, Int32.toInt_lt _⟩
def pkz (a b : Int) : Int := (((lZ a) <<< ((iZ 32).toInt64 &&& 63)) ||| ((lZ b) &&& (lZ 4294967295))).toInt
theorem pkz_eq (a b : Int) : (((lZ a) <<< ((iZ 32).toInt64 &&& 63)) ||| ((lZ b) &&& (lZ 4294967295))) = lZ (pkz a b) := (lZ_of _).symm
theorem pkz_r (a b : Int) : -9223372036854775808 ≤ pkz a b ∧ pkz a b < 9223372036854775808 := ⟨Int64.le_toInt _, Int64.toInt_lt _⟩
theorem cmz_self (x : Int) : cmz x x = 0 := by
  unfold cmz
  rw [if_neg (by omega), if_pos rfl]
def lA (s : State) : Nat → Prop := fun q => s.heap.size ≤ q
theorem kS_new {s : State} {H : Heap} {locs : List Loc} (hS : va_S (lA s) s.heap H locs) : kS s.heap H := by
  intro a cell ha _
  have hlt : a < s.heap.size := (Array.getElem?_eq_some_iff.mp ha).1
  rw [hS.2.1 a hlt (fun h => Nat.not_le.mpr hlt h)]
  exact ha
section LSC
variable {p : Program} {l : Launch} {e : Env} {R : Room} {s : State} {m : MethodId} {args : Array Value} {below : List Frame} {meth : Method} {c : Code} {H : Heap} {locs : List Loc} {cells slots : Nat} {Q : State → Prop}
variable {cc : ByteArray} {pc : Nat} {ls : Array Slot} {rest : List Value} {A : Nat → Prop} {H0 : Heap}
theorem z_sld (hexec : p.tables.exec = Jvm.exec) (hb : c.code = cc) {b L : Nat} {xs : Nat → Int32} (hX : va_X b L xs s H0) (hbl : b < H0.size) (hbA : ¬ A b) (hS : va_S A H0 H locs) {j : Int} (h0 : 0 ≤ j) (h1 : j < (L : Int)) (hL : (L : Int) < 2147483648) (hdg : decode cc pc = .ok (.iaload, 1))
    (kk : W p l e R s m args below meth c H locs cells slots Q (F0 m (pc + 1) ls (.int (iZ (xz xs j)) :: rest))) : W p l e R s m args below meth c H locs cells slots Q (F0 m pc ls (.int (iZ j) :: .ref b :: rest)) := by
  refine va_sld hexec hb hX hbl hbA hS (iZ_in h0 h1 hL) hdg ?_
  rw [iZ_clamp h0 (by omega), ← iZ_of (xs j.toNat)]
  exact kk
theorem z_slen (hexec : p.tables.exec = Jvm.exec) (hb : c.code = cc) {b L : Nat} {xs : Nat → Int32} (hX : va_X b L xs s H0) (hbl : b < H0.size) (hbA : ¬ A b) (hS : va_S A H0 H locs) (hdg : decode cc pc = .ok (.arraylength, 1))
    (kk : W p l e R s m args below meth c H locs cells slots Q (F0 m (pc + 1) ls (.int (iZ (L : Int)) :: rest))) : W p l e R s m args below meth c H locs cells slots Q (F0 m pc ls (.ref b :: rest)) := va_slen hexec hb hX hbl hbA hS hdg (by rw [iZ_n]; exact kk)
end LSC
/-- the law's world: the out array, an OrderTwoCases and a reference of the same equation -/
abbrev lW (cA cJ : ClassId) (ad ma : Nat → Nat) (oq : Nat) (f g : Int → Int) (u : OS) (v : MS) (ou : Int → Int) : va_W := [(oq, .inl (cJ, 1, .inr (.inl (aL ou)))), ((ad 0), .inr (4, [.ref ((ad 1)), .ref ((ad 6)), .ref ((ad 31)), .ref ((ad 41)), .int (iZ (u.2.2.2.2.2.2.2.2.2.2.2.2.2.2.2.2.2.2.2))])), ((ad 1), .inr (1, [.ref ((ad 2)), .ref ((ad 4))])), ((ad 2), .inr (0, [.ref ((ad 3))])), ((ad 3), .inl (cA, 3, .inl (aR f))), ((ad 4), .inr (0, [.ref ((ad 5))])), ((ad 5), .inl (cA, 5, .inl (aR g))), ((ad 6), .inr (3, [.ref ((ad 7)), .int (iZ (u.2.2.2.2.2.2.2.2.2.2.2.2.2.2.2.1)), .int (iZ (u.2.2.2.2.2.2.2.2.2.2.2.2.2.2.2.2.1)), .int (iZ (u.2.2.2.2.2.2.2.2.2.2.2.2.2.2.2.2.2.1)), .int (iZ (u.2.2.2.2.2.2.2.2.2.2.2.2.2.2.2.2.2.2.1)), .ref ((ad 9)), .ref ((ad 11)), .ref ((ad 21))])), ((ad 7), .inr (0, [.ref ((ad 8))])), ((ad 8), .inl (cA, 5, .inl (aR u.1))), ((ad 9), .inr (0, [.ref ((ad 10))])), ((ad 10), .inl (cA, 3, .inl (aR u.2.1))), ((ad 11), .inr (2, [.ref ((ad 12)), .ref ((ad 14)), .ref ((ad 16))])), ((ad 12), .inr (0, [.ref ((ad 13))])), ((ad 13), .inl (cA, 3, .inl (aR u.2.2.1))), ((ad 14), .inr (0, [.ref ((ad 15))])), ((ad 15), .inl (cA, 13, .inl (aR u.2.2.2.1))), ((ad 16), .inr (1, [.ref ((ad 17)), .ref ((ad 19))])), ((ad 17), .inr (0, [.ref ((ad 18))])), ((ad 18), .inl (cA, 3, .inl (aR u.2.2.2.2.1))), ((ad 19), .inr (0, [.ref ((ad 20))])), ((ad 20), .inl (cA, 5, .inl (aR u.2.2.2.2.2.1))), ((ad 21), .inr (2, [.ref ((ad 22)), .ref ((ad 24)), .ref ((ad 26))])), ((ad 22), .inr (0, [.ref ((ad 23))])), ((ad 23), .inl (cA, 3, .inl (aR u.2.2.2.2.2.2.1))), ((ad 24), .inr (0, [.ref ((ad 25))])), ((ad 25), .inl (cA, 13, .inl (aR u.2.2.2.2.2.2.2.1))), ((ad 26), .inr (1, [.ref ((ad 27)), .ref ((ad 29))])), ((ad 27), .inr (0, [.ref ((ad 28))])), ((ad 28), .inl (cA, 3, .inl (aR u.2.2.2.2.2.2.2.2.1))), ((ad 29), .inr (0, [.ref ((ad 30))])), ((ad 30), .inl (cA, 5, .inl (aR u.2.2.2.2.2.2.2.2.2.1))), ((ad 31), .inr (2, [.ref ((ad 32)), .ref ((ad 34)), .ref ((ad 36))])), ((ad 32), .inr (0, [.ref ((ad 33))])), ((ad 33), .inl (cA, 3, .inl (aR u.2.2.2.2.2.2.2.2.2.2.1))), ((ad 34), .inr (0, [.ref ((ad 35))])), ((ad 35), .inl (cA, 13, .inl (aR u.2.2.2.2.2.2.2.2.2.2.2.1))), ((ad 36), .inr (1, [.ref ((ad 37)), .ref ((ad 39))])), ((ad 37), .inr (0, [.ref ((ad 38))])), ((ad 38), .inl (cA, 3, .inl (aR u.2.2.2.2.2.2.2.2.2.2.2.2.1))), ((ad 39), .inr (0, [.ref ((ad 40))])), ((ad 40), .inl (cA, 5, .inl (aR u.2.2.2.2.2.2.2.2.2.2.2.2.2.1))), ((ad 41), .inr (0, [.ref ((ad 42))])), ((ad 42), .inl (cA, 41, .inl (aR u.2.2.2.2.2.2.2.2.2.2.2.2.2.2.1))), ((ma 0), .inr (5, [.int (iZ (v.2.2.2.2.2.2.2.2.2.2.1)), .ref ((ma 1)), .ref ((ma 2)), .ref ((ma 3)), .ref ((ma 4)), .ref ((ma 5)), .int (iZ (v.2.2.2.2.2.2.2.2.2.2.2.1)), .int (iZ (v.2.2.2.2.2.2.2.2.2.2.2.2)), .ref ((ma 6)), .ref ((ma 7)), .ref ((ma 8)), .ref ((ma 9)), .ref ((ma 10)), .ref ((ma 11)), .ref ((ma 12))])), ((ma 1), .inl (cA, 3, .inl (aR f))), ((ma 2), .inl (cA, 5, .inl (aR g))), ((ma 3), .inl (cJ, 5, .inr (.inl (aL v.1)))), ((ma 4), .inl (cJ, 3, .inr (.inl (aL v.2.1)))), ((ma 5), .inl (cJ, 5, .inr (.inl (aL v.2.2.1)))), ((ma 6), .inl (cA, 2, .inl (aR v.2.2.2.1))), ((ma 7), .inl (cJ, 26, .inr (.inl (aL v.2.2.2.2.1)))), ((ma 8), .inl (cJ, 6, .inr (.inl (aL v.2.2.2.2.2.1)))), ((ma 9), .inl (cJ, 20, .inr (.inl (aL v.2.2.2.2.2.2.1)))), ((ma 10), .inl (cJ, 13, .inr (.inl (aL v.2.2.2.2.2.2.2.1)))), ((ma 11), .inl (cJ, 41, .inr (.inl (aL v.2.2.2.2.2.2.2.2.1)))), ((ma 12), .inl (cA, 2, .inl (aR v.2.2.2.2.2.2.2.2.2.1)))]
