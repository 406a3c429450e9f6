/-! ===== the law's return ===== -/
/-- what holds of the surroundings of this run -/
def z_at (L : Nat) (xs : Nat → Int) (E : zE) (args : Array Value) (s : State) : Prop := e_L E = L ∧ e_xs E = xs ∧ e_b E = s.heap.size ∧ args = #[.ref (e_ad E 49)]
abbrev zFL (L : Nat) (xs : Nat → Int) (c0 s0 : Nat) : zF := (fun E below args s t => z_at L xs E args s → lw_Z below args s t, c0, s0)
theorem lw_retR {p : Program} {l : Launch} {e : Env} {R : Room} {s : State} {m : MethodId} {below : List Frame} {meth : Method} {c : Code} {args : Array Value} (hx : p.tables.exec = Jvm.exec) (hb : c.code = code) (hr : meth.sig.returnType = ret) (hlocks : meth.locks = false) {pc : Nat} {H : Heap} {ls : Array Slot} (hdg : decode code pc = .ok (.ireturn, 1)) : W p l e R s m args below meth c H [] 600104 7301314 (lw_Z below args s) (F0 m pc ls [.int 1]) := by
  intro T hT X
  obtain ⟨fs, hret, hrun, hended, hW, hframe⟩ := X.leave (v := some (.int 1)) (hlocks := hlocks) (fun h => by rw [hr] at h; cases h)
  have hmeth' : T.vm.method? m = some meth := X.method'
  refine ⟨T.setFrames fs, ?_, .returned (some (.int 1)), hrun, hended, rfl, ⟨_, rfl⟩, hW, hframe⟩
  jvm_step X.here [X.here.top, hx, hb, hdg, hmeth', hr, ret, narrow_b1]
  (try refine ⟨rfl, ?_⟩); (try refine ⟨rfl, ?_⟩)
  first | (intro acts; rw [hret _ acts rfl rfl rfl]) | rw [hret _ _ rfl rfl rfl]
  exact Steps.refl _
/-- nothing is owed where the surroundings are others -/
theorem g_if {M : zM} {L : Nat} {xs : Nat → Int} {c0 s0 u pc : Nat} {al : List (Option zV)} {st : List zV} {S : zS}
    (k : ∀ (E : zE) (p : Program) (l : Launch) (e : Env) (R : Room) (s : State) (m : MethodId) (args : Array Value) (below : List Frame) (meth : Method) (c : Code), z_Cx E M (zFL L xs c0 s0) p l R s m args meth c → z_at L xs E args s →
      z_GW E M ((zFL L xs c0 s0).1 E below args s) (c0 + u) (s0 + 6 * u) p l e R s m args below meth c pc al st S) : z_G M (zFL L xs c0 s0) u pc al st S := by
  intro E p l e R s m args below meth c C
  by_cases h : z_at L xs E args s
  · exact k E p l e R s m args below meth c C h
  · intro H locs ls hW hS hL hst T hT X
    exact ⟨_, Steps.refl _, fun q => absurd q h⟩
section
variable {hh : List (Nat × Nat × Nat × Nat)} {L : Nat} {xs : Nat → Int} {c0 s0 u pc q : Nat} {al : List (Option zV)} {st : List zV} {S : zS}
theorem g_lawret (hc : c0 + 100000 ≤ 600104) (hs : s0 + 6 * 100000 ≤ 7301314) (hu : u ≤ 100000) (hd : decode cL_law pc = .ok (.ireturn, 1)) : z_G (mLw hh) (zFL L xs c0 s0) u pc al [zI 1] S := by
  refine g_if fun E p l e R s m args below meth c C h => ?_
  intro H locs ls hW hS hL hst
  refine va_forget (fun q hq => by rw [← h.2.2.1]; exact hS.2.2 q hq) ?_
  refine W.widen (k := 600104) (n := 7301314) (by omega) (by omega) ?_
  intro T hT X
  obtain ⟨t, a1, a2⟩ := lw_retR (R := R) (args := args) C.1 C.2.1 (C.2.2.2.1) C.2.2.2.2.2.2.1 (ls := ls) hd T hT X
  exact ⟨t, a1, fun _ => a2⟩
end
