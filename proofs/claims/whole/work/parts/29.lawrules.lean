/-! ===== the law's body: its tuple, its end, the script, the wrappers called ===== -/
/-- the law's body; its table of handlers is whatever it is: it catches nothing -/
abbrev mLw (hh : List (Nat × Nat × Nat × Nat)) : zM := (x, cL_law, 7, some .boolean, hh, 11, 392, 6000)
/-- what holds of the surroundings of this run -/
def z_at (L : Nat) (xs : Nat → Int) (E : zE) (args : Array Value) (s : State) : Prop := e_L E = L ∧ e_xs E = xs ∧ e_b E = s.heap.size ∧ args = #[.ref (e_ad E 64)]
abbrev zFL (L : Nat) (xs : Nat → Int) (c0 s0 : Nat) : zF := (fun E below args s t => z_at L xs E args s → lw_Z below args s t, c0, s0)
theorem lw_retR {p : Program} {l : Launch} {e : Env} {R : Room} {s : State} {m : MethodId} {below : List Frame} {meth : Method} {c : Code} {args : Array Value} (hx : p.tables.exec = Jvm.exec) (hb : c.code = code) (hr : meth.sig.returnType = ret) (hlocks : meth.locks = false) {pc : Nat} {H : Heap} {ls : Array Slot} (hdg : decode code pc = .ok (.ireturn, 1)) : W p l e R s m args below meth c H [] 601024 7293033 (lw_Z below args s) (F0 m pc ls [.int 1]) := by
  intro T hT X
  obtain ⟨fs, hret, hrun, hended, hW, hframe⟩ := X.leave (v := some (.int 1)) (hlocks := hlocks) (fun h => by rw [hr] at h; cases h)
  have hmeth' : T.vm.method? m = some meth := X.method'
  refine ⟨T.setFrames fs, ?_, .returned (some (.int 1)), hrun, hended, rfl, ⟨_, rfl⟩, hW, hframe⟩
  jvm_step X.here [X.here.top, hx, hb, hdg, hmeth', hr, ret, narrow_b1]
  (try refine ⟨rfl, ?_⟩); (try refine ⟨rfl, ?_⟩)
  first | (intro acts; rw [hret _ acts rfl rfl rfl]) | rw [hret _ _ rfl rfl rfl]
  exact Steps.refl _
/-- nothing is owed where the surroundings are others -/
theorem g_if {M : zM} {L : Nat} {xs : Nat → Int} {c0 s0 u pc : Nat} {al : List (Option zV)} {st : List zV} {S : zS}
    (k : ∀ (E : zE) (p : Program) (l : Launch) (e : Env) (R : Room) (s : State) (m : MethodId) (args : Array Value) (below : List Frame) (meth : Method) (c : Code), z_Cx E M (zFL L xs c0 s0) p l R s m args meth c → z_at L xs E args s →
      z_GW E M ((zFL L xs c0 s0).1 E below args s) (c0 + u) (s0 + 6 * u) p l e R s m args below meth c pc al st S) : z_G M (zFL L xs c0 s0) u pc al st S := by
  intro E p l e R s m args below meth c C
  by_cases h : z_at L xs E args s
  · exact k E p l e R s m args below meth c C h
  · intro H locs ls hW hS hL hst T hT X
    exact ⟨_, Steps.refl _, fun q => absurd q h⟩
section
variable {hh : List (Nat × Nat × Nat × Nat)} {L : Nat} {xs : Nat → Int} {c0 s0 u pc q : Nat} {al : List (Option zV)} {st : List zV} {S : zS}
theorem g_lawret (hc : c0 + 6000 ≤ 601024) (hs : s0 + 6 * 6000 ≤ 7293033) (hu : u ≤ 6000) (hd : decode cL_law pc = .ok (.ireturn, 1)) : z_G (mLw hh) (zFL L xs c0 s0) u pc al [zI 1] S := by
  refine g_if fun E p l e R s m args below meth c C h => ?_
  intro H locs ls hW hS hL hst
  refine va_forget (fun q hq => by rw [← h.2.2.1]; exact hS.2.2 q hq) ?_
  refine W.widen (k := 601024) (n := 7293033) (by omega) (by omega) ?_
  intro T hT X
  obtain ⟨t, a1, a2⟩ := lw_retR (R := R) (args := args) C.1 C.2.1 (C.2.2.2.1) C.2.2.2.2.2.2.1 (ls := ls) hd T hT X
  exact ⟨t, a1, fun _ => a2⟩
theorem g_sld {i : Int} (hd : decode cL_law pc = .ok (.iaload, 1)) (hq : pc + 1 = q) (h0 : 0 ≤ i) (h1 : i < L) (k : z_G (mLw hh) (zFL L xs c0 s0) u q al (zI (xs i.toNat) :: st) S) : z_G (mLw hh) (zFL L xs c0 s0) u pc al (zI i :: zR 64 :: st) S := by
  refine g_if fun E p l e R s m args below meth c C h => ?_
  intro H locs ls hW hS hL hst
  subst hq
  have hi : z_in i := z_top hst
  refine va_sld C.1 C.2.1 C.2.2.2.2.2.2.2.2.2.2.2.2.2.2 (by have := hW.2.2.2.2.1; have := C.2.2.2.2.2.2.2.2.2.2.1; omega) (by have := hW.2.2.2.2.1.2.1; unfold z_A; omega) hS (z_vin hi h0 (by rw [h.1]; exact h1)) hd ?_
  rw [z_clamp hi]
  have hx := k E p l e R s m args below meth c C H locs ls hW hS hL (z_cons (by rw [← h.2.1]; exact hW.2.2.2.2.1.2.2.2 _) (z_tail (z_tail hst)))
  rw [show xs i.toNat = e_xs E i.toNat from by rw [h.2.1]] at hx
  exact hx
theorem g_slen (hL0 : L ≤ 2560) (hd : decode cL_law pc = .ok (.arraylength, 1)) (hq : pc + 1 = q) (k : z_G (mLw hh) (zFL L xs c0 s0) u q al (zI (L : Int) :: st) S) : z_G (mLw hh) (zFL L xs c0 s0) u pc al (zR 64 :: st) S := by
  refine g_if fun E p l e R s m args below meth c C h => ?_
  intro H locs ls hW hS hL hst
  subst hq
  refine va_slen C.1 C.2.1 C.2.2.2.2.2.2.2.2.2.2.2.2.2.2 (by have := hW.2.2.2.2.1; have := C.2.2.2.2.2.2.2.2.2.2.1; omega) (by have := hW.2.2.2.2.1.2.1; unfold z_A; omega) hS hd ?_
  have hx := k E p l e R s m args below meth c C H locs ls hW hS hL (z_cons (show z_in (L : Int) from ⟨by omega, by omega⟩) (z_tail hst))
  rw [h.1]
  exact hx
end
theorem z_G.widen {M : zM} {F : zF} {u u' pc : Nat} {al : List (Option zV)} {st : List zV} {S : zS} (h : u ≤ u') (k : z_G M F u' pc al st S) : z_G M F u pc al st S := by
  intro E p l e R s m args below meth c C H locs ls hW hS hL hst
  exact W.widen (by omega) (by omega) (k E p l e R s m args below meth c C H locs ls hW hS hL hst)
/-- a wrapper, called by invokestatic -/
def z_wk (own : String) (ix n : Nat) (M : zM) : Prop := (∀ w ∈ ([.methodLink own ix (m_y M), .static (m_y M), .initialized (m_y M).cls, .codeWith (m_y M) (m_c M) (m_l M) (m_r M) (m_h M)] : List Cond), w ∈ z_big) ∧
  ((m_y M).cls ≠ "java/lang/invoke/MethodHandle" ∧ (m_y M).cls ≠ "java/lang/invoke/VarHandle" ∧ (parseMethodDescriptor (m_y M).desc).map (fun d => d.parameters.length) = some n)
section
variable {M M' : zM} {F : zF} {u u' pc q ix : Nat} {al : List (Option zV)} {st : List zV} {S S' : zS}
theorem g_fnW {n : Nat} {as st0 : List zV} {r : zV} (hd : decode (m_c M) pc = .ok (.invokestatic ix, 3)) (hq : pc + 3 = q) (hm : z_wk (m_y M).cls ix n M') (hn : as.length = n) (hs0 : st0 = as.reverse ++ st) (hst4 : st.length ≤ 4)
    (hR : m_F M' + 1 ≤ m_F M ∧ 8 + (m_l M' + 11) + m_L M' ≤ m_L M) (hu1 : u + m_u M' = u') (hu : u' ≤ m_u M) (sp : z_SpW M' as S (fun x T => x = .ok (some r) ∧ T = S')) (k : z_G M F u' q al (r :: st) S') : z_G M F u pc al st0 S := by
  intro E p l e R s m args below meth c C H locs ls hW hS hL hst
  subst hq
  subst hs0
  subst hu1
  obtain ⟨hx, hb, hml, hret, hown, hts, hlocks, htab, ⟨hRF, hRL, hRc, hRs⟩, hflag, hbase, hsw, hst9⟩ := id C
  obtain ⟨hws, hd1, hd2, hd3⟩ := hm
  have hG : GoodIn z_big (va_wsS (m_y M).cls ix (m_y M') (.codeWith (m_y M') (m_c M') (m_l M') (m_r M') (m_h M') :: z_big)) := z_goodIn (fun w hw => by
    simp only [va_wsS, List.cons_append, List.nil_append, List.mem_cons] at hw
    rcases hw with rfl | rfl | rfl | rfl | hw
    · exact hws _ (by simp)
    · exact hws _ (by simp)
    · exact hws _ (by simp)
    · exact hws _ (by simp)
    · exact hw)
  refine z_run (Q' := fun x T => x = .ok (some r) ∧ T = S') (vx_runSX (hh := m_h M') (As := as.map (z_tv (e_ad E))) (rest := st.map (z_tv (e_ad E))) ⟨hx, hb, hml, hown, hts⟩ (sp l E hflag) (vx_cwSW n hts hG rfl rfl rfl ⟨hd1, hd2, hd3⟩ (by rw [hRF, hRL]; exact hR)) ⟨z_Pc_blind, z_Pc_of hW hsw (fun v hv => hst v (List.mem_append_left _ (List.mem_reverse.mpr hv)))⟩ rfl (by rw [List.length_map]; exact hn) (hL.1) (by show List.map _ _ = _; simp [List.map_append, List.map_reverse]) (lv_room (z_ca_sum hst4)) hd ⟨by omega, by omega⟩) hS (fun X ce q9 S1 H1 locs1 hq hw1 hs1 hce hcv hcl => by cases hq.1) (fun r1 S1 H1 locs1 hq hrok hw1 hs1 => ?_)
  obtain ⟨h1, rfl⟩ := hq
  cases h1
  have h := k E p l e R s m args below meth c C H1 locs1 ls hw1 hs1 hL (z_cons (hrok r rfl) (fun v hv => hst v (List.mem_append_right _ hv)))
  rw [show F.2.1 + u + m_u M' = F.2.1 + (u + m_u M') by omega, show F.2.2 + 6 * u + 6 * m_u M' = F.2.2 + 6 * (u + m_u M') by omega]
  exact h
end
