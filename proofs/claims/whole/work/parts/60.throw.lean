/-! THROW: a method that leaves by a throw of its own; what is kept then -/
theorem x_hears {s U : State} (hvm : s.vm.Alike U.vm) {m : MethodId} {below : List Frame} (h : s.hears m below = true) : U.hears m below = true := by
  cases below with
  | nil => simpa [State.hears, hvm.method?] using h
  | cons f r => cases f <;> simpa [State.hears, State.code?_eq, hvm.method?] using h
section XBASE
variable {p : Program} {l : Launch} {e : Env} {R : Room} {s : State} {m : MethodId} {args : Array Value} {below : List Frame} {meth : Method} {c : Code} {T : State} {locs : List Loc} {cells slots : Nat}
/-- the walk begun anew where it stands: nothing written yet, nothing made yet -/
theorem x_base (X : Stand p l e R s m args below meth c T locs cells slots) (hc : cells ≤ R.cells) (hs : slots ≤ R.slots) : ∃ s' : State, s'.heap = T.heap ∧ s'.vm = T.vm ∧ Stand p l e { R with cells := R.cells - cells, slots := R.slots - slots } s' m args below meth c T [] 0 0 ∧ ∀ (t : State) (L : List Loc) (k n : Nat), s'.WarmedH t.vm → s'.sameButNew ({ t with vm := s'.vm } : State) L k n → s.WarmedH t.vm ∧ s.sameButNew ({ t with vm := s.vm } : State) (locs ++ L) (cells + k) (slots + n) := by
  obtain ⟨g₀, hfr⟩ := X.frames_eq
  have hcur : T.cur < T.threads.size := State.cur_lt_of_frames hfr
  obtain ⟨th, hth, -⟩ := State.frames_cons hfr
  have hf : (T.setFrames (.invoking m args :: below)).frames = .invoking m args :: below := State.frames_setFrames _ hcur
  have hm : T.vm.method? m = some meth := X.method'
  refine ⟨T.setFrames (.invoking m args :: below), rfl, rfl, ⟨X.admits, X.cas, X.clock, hf, ?_, x_hears X.warmed.alike X.hears, hm, X.code, X.here, X.tail, State.WarmedH.refl _, ?_, ?_, ?_⟩, ?_⟩
  · have h := X.room
    have hu := X.used
    have hz := X.heapSize
    have hbk := X.book
    have hl1 := State.localsInUse_invoking X.frames X.method X.code
    have hl2 := State.localsInUse_invoking (s := T.setFrames (.invoking m args :: below)) hf hm X.code
    have e1 : (T.setFrames (.invoking m args :: below)).slotsTrue = true := hbk
    have e2 : e.platform.stackLimits (T.setFrames (.invoking m args :: below)).me = e.platform.stackLimits s.me := by rw [State.stackLimits_setFrames]; exact X.limits
    have e3 : (T.setFrames (.invoking m args :: below)).me.stackBytes = s.me.stackBytes := by rw [State.stackBytes_setFrames]; exact X.bytes
    simp only [State.hasRoom, Bool.and_eq_true, decide_eq_true_eq] at h ⊢
    obtain ⟨⟨⟨⟨h1, h2⟩, h3⟩, h4⟩, -⟩ := h
    rw [e1, e2, e3, hl2, hf]
    rw [hl1] at h1 h2
    rw [X.frames] at h2
    refine ⟨⟨⟨⟨h1, h2⟩, ?_⟩, ?_⟩, rfl⟩
    · show T.heap.size + (R.cells - cells) ≤ _
      omega
    · show T.slotsUsed + (R.slots - slots) ≤ _
      omega
  · rw [State.stackLimits_setFrames]
  · rw [State.stackBytes_setFrames]
  · refine ⟨?_, Nat.le_refl _, Nat.le_refl _, ?_, ?_, fun a c h => ⟨c, h, rfl, rfl, fun _ _ => rfl⟩⟩
    · show T = { (T.setFrames (.invoking m args :: below)).setFrames T.frames with heap := T.heap, slotsUsed := T.slotsUsed }
      rw [State.setFrames_setFrames, State.setFrames_self hth]
    · show T.slotsUsed = T.slotsUsed + ((T.heap.toList.drop T.heap.size).map (·.slots.size)).sum
      rw [List.drop_eq_nil_of_le (by simp)]
      rfl
    · show ((T.heap.toList.drop T.heap.size).map (·.slots.size)).sum ≤ 0
      rw [List.drop_eq_nil_of_le (by simp)]
      exact Nat.le_refl 0
  · intro t L k n hW hsm
    have hW2 : T.WarmedH t.vm := hW
    have hs2 : T.sameButNew ({ t with vm := T.vm } : State) L k n := ⟨by
      have h1 := hsm.1
      rw [State.setFrames_setFrames] at h1
      exact h1, hsm.2⟩
    exact ⟨State.WarmedH.trans X.warmed hW2, X.same.trans (hs2.setVm s.vm)⟩
end XBASE
