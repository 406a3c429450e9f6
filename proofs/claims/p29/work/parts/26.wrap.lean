/-! ===== the law's wrappers: a call, what it throws caught ===== -/
/-- a method with a table of handlers, called so, ends with Q -/
def z_SpW (M : zM) (args : List zV) (S : zS) (Q : zQ) : Prop := ∀ (l : Launch) (E : zE), l.stackTraces = false →
  vx_Met l (m_y M) (.codeWith (m_y M) (m_c M) (m_l M) (m_r M) (m_h M) :: z_big) (z_rm M) (z_Pc E args S) (z_Qc E Q) (z_XC E Q) (m_u M) (6 * m_u M) (z_A E)
theorem z_enterW {M : zM} {as : List zV} {S : zS} {Q : zQ} (hy : plainName (m_y M).cls = true) (hn : ∀ v ∈ as, z_nl v) (hl : as.length ≤ m_l M)
    (k : z_G M (z_F M Q) 0 0 (as.map some ++ List.replicate (m_l M - as.length) none) [] S) : z_SpW M as S Q := by
  intro l E hflag
  refine vx_ofWH (cc := m_c M) (maxL := m_l M) (ret := m_r M) (hh := m_h M) hy rfl ?_
  intro p e s m args below meth c s₁ B hml hv
  obtain ⟨rfl, hW, hsw, hok⟩ := hv
  have hts0 := atoms_spec (ws := Cond.codeWith (m_y M) (m_c M) (m_l M) (m_r M) (m_h M) :: z_big) B.pre
  have hts : ∀ w ∈ z_big, w.before ((as.map (z_tv (e_ad E))).toArray) s = true := fun w hw => hts0 w (List.mem_cons_of_mem _ hw)
  have hown : s.vm.findClass (m_y M).cls = some m.cls := findClass_of_methodNamed B.named
  have htab2 : z_tab M c := by
    obtain ⟨m9, meth9, c9, hn9, h1, h2, -, -, h6, -⟩ := Cond.codeWith_spec (hts0 _ List.mem_cons_self)
    cases Option.some.inj (hn9.symm.trans B.named)
    cases Option.some.inj (h1.symm.trans B.method)
    cases Option.some.inj (h2.symm.trans (Stand.of_body B).code)
    exact h6
  rw [lg_entry_eq]
  exact k E p l e (z_rm M) s m _ below meth c ⟨B.exec, B.bytes, hml, B.returns, hown, hts, B.notSynchronized, htab2, ⟨rfl, rfl, by show 0 + _ ≤ _; exact Nat.le_of_eq (Nat.zero_add _), by show 0 + _ ≤ _; exact Nat.le_of_eq (Nat.zero_add _)⟩, hflag, hW.2.2.2.2.1.1, hsw, hW.2.2.2.1⟩ s.heap [] _ hW va_S.rf (z_lok_entry hn hok hl) (fun v hv => nomatch hv)
/-- at a handler: what was thrown lies on the stack -/
def z_GH (M : zM) (F : zF) (u pc : Nat) (al : List (Option zV)) (S : zS) : Prop :=
  ∀ (E : zE) (p : Program) (l : Launch) (e : Env) (R : Room) (s : State) (m : MethodId) (args : Array Value) (below : List Frame) (meth : Method) (c : Code), z_Cx E M F p l R s m args meth c →
    ∀ (H : Heap) (locs : List Loc) (ls : Array Slot) (q9 : Addr), z_wd E S s H → va_S (z_A E) s.heap H locs → z_lok (e_ad E) (m_l M) (m_w M) al ls →
      W p l e R s m args below meth c H locs (F.2.1 + u) (F.2.2 + 6 * u) (F.1 E below args s) (F0 m pc ls [.ref q9])
def z_ncs : List (String × String) := [(xI, xA), (xI, xS), (xA, xI), (xA, xS), (xS, xI), (xS, xA)]
theorem z_row4 (x : ExceptionTableEntry) (y : Nat × Nat × Nat × Nat) (h : (x.startPc, x.endPc, x.handlerPc, x.catchType) = y) : x.startPc = y.1 ∧ x.endPc = y.2.1 ∧ x.handlerPc = y.2.2.1 ∧ x.catchType = y.2.2.2 := by
  subst h
  exact ⟨rfl, rfl, rfl, rfl⟩
theorem gx_catch {M : zM} {F : zF} {u pc : Nat} {al : List (Option zV)} {X : String} {S : zS} (pre : List (Nat × Nat × Nat × Nat)) (x : Nat × Nat × Nat × Nat) (suf : List (Nat × Nat × Nat × Nat)) (hs : m_h M = pre ++ x :: suf)
    (hpre : ∀ z ∈ pre, z.2.2.2 ≠ 0 ∧ ∃ nm, Cond.classLink (m_y M).cls z.2.2.2 nm ∈ z_big ∧ (X, nm) ∈ z_ncs) (hx : x.1 ≤ pc ∧ pc < x.2.1) (h0 : x.2.2.2 ≠ 0) (hl : Cond.classLink (m_y M).cls x.2.2.2 X ∈ z_big) (hX : X ∈ [xI, xA, xS])
    (k : z_GH M F u x.2.2.1 al S) : z_GX M F u pc al X S := by
  intro E p l e R s m args below meth c C H locs ls rest ce q9 hW hS hL hce hcv hcl
  obtain ⟨hxx, hb, hml, hret, hown, hts, hlocks, htab, hR, hflag, hbase, hsw, hst9⟩ := id C
  unfold z_tab at htab
  rw [hs] at htab
  obtain ⟨pre', t2, e1, e2, e3⟩ := List.map_eq_append_iff.mp htab
  obtain ⟨x', suf', e4, e5, e6⟩ := List.map_eq_cons_iff.mp e3
  obtain ⟨r1, r2, r3, r4⟩ := z_row4 x' x e5
  have hk := k E p l e R s m args below meth c C H locs ls q9 hW hS hL
  rw [← r3] at hk
  refine vx_catch (own := (m_y M).cls) (name := X) (E := X) hown pre' x' suf' (by rw [e1, e4]) (fun z hz => ?_) (by rw [covers, r1, r2]; simp [hx.1, hx.2]) (by rw [r4]; exact h0) (by rw [r4]; exact hts _ hl) ((hsw.2.1 X hX).use rfl) hce hcv hcl hk
  obtain ⟨y, hy1, hy2⟩ : ∃ y, y ∈ pre ∧ (z.startPc, z.endPc, z.handlerPc, z.catchType) = y := ⟨_, by rw [← e2]; exact List.mem_map_of_mem hz, rfl⟩
  obtain ⟨s1, s2, s3, s4⟩ := z_row4 z y hy2
  obtain ⟨a1, nm, a2, a3⟩ := hpre y hy1
  exact Or.inr ⟨by rw [s4]; exact a1, nm, by rw [s4]; exact hts _ a2, hsw.2.2.2.2 _ a3⟩
section
variable {M : zM} {u h i : Nat} {al : List (Option zV)} {S : zS} {Q : zQ} {n : Int}
theorem gh_ret (hr : m_r M = some .int) (hz : z_in n) (hv : (Int16.ofInt n).toInt32 = Int32.ofInt n) (hu : u ≤ m_u M) (d2 : decode (m_c M) h = .ok (.sipush n, 3)) (d3 : decode (m_c M) (h + 3) = .ok (.ireturn, 1)) (hQ : Q (.ok (some (zI n))) S)
    {E : zE} {p : Program} {l : Launch} {e : Env} {R : Room} {s : State} {m : MethodId} {args : Array Value} {below : List Frame} {meth : Method} {c : Code} (C : z_Cx E M (z_F M Q) p l R s m args meth c) {H : Heap} {locs : List Loc} {ls : Array Slot} (hW : z_wd E S s H) (hS : va_S (z_A E) s.heap H locs) :
    W p l e R s m args below meth c H locs ((z_F M Q).2.1 + u) ((z_F M Q).2.2 + 6 * u) ((z_F M Q).1 E below args s) (F0 m h ls []) := by
  refine lv_sipush (v := Int32.ofInt n) C.1 C.2.1 d2 hv ?_
  refine W.widen (k := m_u M) (n := 6 * m_u M) (by show 0 + u ≤ _; omega) (by show 0 + 6 * u ≤ _; omega) (vx_ret ?_)
  exact W.iret (v := Int32.ofInt n) C.1 C.2.1 (C.2.2.2.1.trans hr) (fun t ht hw => ⟨⟨some (zI n), S, rfl, hQ, fun v hv => by cases hv; exact hz, by rw [ht]; exact hW.moved hw.alike⟩, by rw [va_F, ht]; exact ⟨hS.1, hS.2.1⟩⟩) hS.2.2 d3 C.2.2.2.2.2.2.1
theorem gh_astore (d0 : decode (m_c M) h = .ok (.astore i, 2)) (d2 : decode (m_c M) (h + 2) = .ok (.sipush n, 3)) (d3 : decode (m_c M) (h + 5) = .ok (.ireturn, 1)) (hi : i < m_l M) (hr : m_r M = some .int) (hz : z_in n) (hv : (Int16.ofInt n).toInt32 = Int32.ofInt n) (hu : u ≤ m_u M) (hQ : Q (.ok (some (zI n))) S) : z_GH M (z_F M Q) u h al S := by
  intro E p l e R s m args below meth c C H locs ls q9 hW hS hL
  exact lv_astore C.1 C.2.1 d0 hL.has hi rfl (fun ls' _ => gh_ret hr hz hv hu d2 d3 hQ C hW hS)
theorem gh_astore_n {k : Fin 4} (d0 : decode (m_c M) h = .ok (.astore_n k, 1)) (hk : (k : Nat) = i) (d2 : decode (m_c M) (h + 1) = .ok (.sipush n, 3)) (d3 : decode (m_c M) (h + 4) = .ok (.ireturn, 1)) (hi : i < m_l M) (hr : m_r M = some .int) (hz : z_in n) (hv : (Int16.ofInt n).toInt32 = Int32.ofInt n) (hu : u ≤ m_u M) (hQ : Q (.ok (some (zI n))) S) : z_GH M (z_F M Q) u h al S := by
  intro E p l e R s m args below meth c C H locs ls q9 hW hS hL
  exact lv_astore_n C.1 C.2.1 d0 hk hL.has hi rfl (fun ls' _ => gh_ret hr hz hv hu d2 d3 hQ C hW hS)
end
/-- what a wrapper answers -/
def z_wv : Except String (Option zV) → Int
  | .error X => if X = xI then -7100 else if X = xA then -7200 else -7300
  | .ok (some (.inl z)) => z
  | .ok _ => 0
def z_sh (L : List String) : Except String (Option zV) → Prop
  | .error X => X ∈ L
  | .ok (some (.inl _)) => True
  | .ok _ => False
abbrev z_FnW (M : zM) (as : List zV) (S : zS) (r : zV) (S' : zS) : Prop := z_SpW M as S (fun x T => x = .ok (some r) ∧ T = S')
abbrev z_Wr (M : zM) (as : List zV) (S : zS) (o : zO) : Prop := z_FnW M as S (zI (z_wv o.1)) o.2
theorem z_oke {X : String} {n : Int} {o : zO} {T : zS} (h1 : Except.error X = o.1) (h2 : T = o.2) (hn : z_wv (.error X) = n) : (.ok (some (zI n)) : Except String (Option zV)) = .ok (some (zI (z_wv o.1))) ∧ T = o.2 := by
  rw [← h1]
  exact ⟨by rw [← hn], h2⟩
theorem z_okk {z : Int} {o : zO} {T : zS} (h1 : Except.ok (some (zI z)) = o.1) (h2 : T = o.2) : (.ok (some (zI z)) : Except String (Option zV)) = .ok (some (zI (z_wv o.1))) ∧ T = o.2 := by
  rw [← h1]
  exact ⟨rfl, h2⟩
theorem w_ok {M : zM} {as : List zV} {S T : zS} {o : zO} {z : Int} (hw : z_Wr M as S o) (e : o = (zI? z, T)) : z_FnW M as S (zI z) T := by
  subst e
  exact hw
theorem w_er {M : zM} {as : List zV} {S T : zS} {o : zO} {X : String} {n : Int} (hw : z_Wr M as S o) (e : o = (.error X, T)) (hn : z_wv (.error X) = n) : z_FnW M as S (zI n) T := by
  subst e
  subst hn
  exact hw
theorem z_she {L : List String} {X : String} {o : zO} {T : zS} (e : o = (.error X, T)) (h : X ∈ L) : z_sh L o.1 := by
  subst e
  exact h
theorem z_shk {L : List String} {z : Int} {o : zO} {T : zS} (e : o = (zI? z, T)) : z_sh L o.1 := by
  subst e
  trivial
theorem w_give {S : zS} {a b : Int} {o : zO} (ho : z_Out mX6_give [zR 0, zI a, zI b] S o) (hsh : z_sh [xI, xS] o.1) : z_Wr mL_give [zR 0, zI a, zI b] S o := by
  refine z_enterW (by decide +kernel) (z_n1 trivial (z_n1 trivial (z_n1 trivial z_n0))) (Nat.le_of_ble_eq_true rfl) ?_
  refine g_aload_n (i := 0) (q := 1) dL_give_0 rfl rfl rfl ?_
  refine g_iload_n (i := 1) (q := 2) dL_give_1 rfl rfl rfl ?_
  refine g_iload_n (i := 2) (q := 3) dL_give_2 rfl rfl rfl ?_
  refine g_callV (Q' := fun x T => x = o.1 ∧ T = o.2) (as := [zI a, zI b]) (q := 6) dL_give_3 rfl ck_L_8 rfl rfl rfl (Nat.le_of_ble_eq_true rfl) (by decide) (by decide) ho (fun X T h => ?_) (fun r T h => ?_)
  · obtain ⟨h1, h2⟩ := h
    rw [← h1] at hsh
    have hX : X ∈ [xI, xS] := hsh
    rcases List.mem_cons.mp hX with rfl | hX
    · exact gx_catch [] (0, 7, 10, 14) [(0, 7, 16, 16)] rfl (fun z hz => nomatch hz) (by decide) (by decide) (z_big_of (by decide +kernel) rfl) (by decide +kernel) (gh_astore dL_give_10 dL_give_12 dL_give_15 (by decide) rfl ⟨by decide, by decide⟩ (by decide) (by decide) (z_oke h1 h2 (by decide +kernel)))
    rcases List.mem_cons.mp hX with rfl | hX
    · exact gx_catch [(0, 7, 10, 14)] (0, 7, 16, 16) [] rfl (List.forall_mem_cons.mpr ⟨⟨by decide, xI, z_big_of (by decide +kernel) rfl, by decide +kernel⟩, fun z hz => nomatch hz⟩) (by decide) (by decide) (z_big_of (by decide +kernel) rfl) (by decide +kernel) (gh_astore dL_give_16 dL_give_18 dL_give_21 (by decide) rfl ⟨by decide, by decide⟩ (by decide) (by decide) (z_oke h1 h2 (by decide +kernel)))
    cases hX
  · obtain ⟨h1, h2⟩ := h
    rw [← h1] at hsh
    rcases r with _ | (z | y)
    · exact hsh.elim
    · skip
      refine g_istore_n (i := 3) (q := 7) dL_give_6 rfl rfl (Nat.le_of_ble_eq_true rfl) ?_
      refine g_goto (q := 0) (t := 22) dL_give_7 (by decide) ?_
      refine g_iload_n (i := 3) (q := 23) dL_give_22 rfl rfl rfl ?_
      exact g_ret dL_give_23 rfl (by decide) (z_okk h1 h2)
    · exact hsh.elim
theorem w_giveBack {S : zS} {a : Int} {o : zO} (ho : z_Out mX6_giveBack [zR 0, zI a] S o) (hsh : z_sh [xI, xS] o.1) : z_Wr mL_giveBack [zR 0, zI a] S o := by
  refine z_enterW (by decide +kernel) (z_n1 trivial (z_n1 trivial z_n0)) (Nat.le_of_ble_eq_true rfl) ?_
  refine g_aload_n (i := 0) (q := 1) dL_giveBack_0 rfl rfl rfl ?_
  refine g_iload_n (i := 1) (q := 2) dL_giveBack_1 rfl rfl rfl ?_
  refine g_callV (Q' := fun x T => x = o.1 ∧ T = o.2) (as := [zI a]) (q := 5) dL_giveBack_2 rfl ck_L_18 rfl rfl rfl (Nat.le_of_ble_eq_true rfl) (by decide) (by decide) ho (fun X T h => ?_) (fun r T h => ?_)
  · obtain ⟨h1, h2⟩ := h
    rw [← h1] at hsh
    have hX : X ∈ [xI, xS] := hsh
    rcases List.mem_cons.mp hX with rfl | hX
    · exact gx_catch [] (0, 6, 9, 14) [(0, 6, 14, 16)] rfl (fun z hz => nomatch hz) (by decide) (by decide) (z_big_of (by decide +kernel) rfl) (by decide +kernel) (gh_astore_n (i := 3) dL_giveBack_9 rfl dL_giveBack_10 dL_giveBack_13 (by decide) rfl ⟨by decide, by decide⟩ (by decide) (by decide) (z_oke h1 h2 (by decide +kernel)))
    rcases List.mem_cons.mp hX with rfl | hX
    · exact gx_catch [(0, 6, 9, 14)] (0, 6, 14, 16) [] rfl (List.forall_mem_cons.mpr ⟨⟨by decide, xI, z_big_of (by decide +kernel) rfl, by decide +kernel⟩, fun z hz => nomatch hz⟩) (by decide) (by decide) (z_big_of (by decide +kernel) rfl) (by decide +kernel) (gh_astore_n (i := 3) dL_giveBack_14 rfl dL_giveBack_15 dL_giveBack_18 (by decide) rfl ⟨by decide, by decide⟩ (by decide) (by decide) (z_oke h1 h2 (by decide +kernel)))
    cases hX
  · obtain ⟨h1, h2⟩ := h
    rw [← h1] at hsh
    rcases r with _ | (z | y)
    · exact hsh.elim
    · skip
      refine g_istore_n (i := 2) (q := 6) dL_giveBack_5 rfl rfl (Nat.le_of_ble_eq_true rfl) ?_
      refine g_goto (q := 0) (t := 19) dL_giveBack_6 (by decide) ?_
      refine g_iload_n (i := 2) (q := 20) dL_giveBack_19 rfl rfl rfl ?_
      exact g_ret dL_giveBack_20 rfl (by decide) (z_okk h1 h2)
    · exact hsh.elim
theorem w_assign {S : zS} {a b : Int} {o : zO} (ho : z_Out mX6_assign [zR 0, zI a, zI b] S o) (hsh : z_sh [xI, xA, xS] o.1) : z_Wr mL_assign [zR 0, zI a, zI b] S o := by
  refine z_enterW (by decide +kernel) (z_n1 trivial (z_n1 trivial (z_n1 trivial z_n0))) (Nat.le_of_ble_eq_true rfl) ?_
  refine g_aload_n (i := 0) (q := 1) dL_assign_0 rfl rfl rfl ?_
  refine g_iload_n (i := 1) (q := 2) dL_assign_1 rfl rfl rfl ?_
  refine g_iload_n (i := 2) (q := 3) dL_assign_2 rfl rfl rfl ?_
  refine g_callV (Q' := fun x T => x = o.1 ∧ T = o.2) (as := [zI a, zI b]) (q := 6) dL_assign_3 rfl ck_L_22 rfl rfl rfl (Nat.le_of_ble_eq_true rfl) (by decide) (by decide) ho (fun X T h => ?_) (fun r T h => ?_)
  · obtain ⟨h1, h2⟩ := h
    rw [← h1] at hsh
    have hX : X ∈ [xI, xA, xS] := hsh
    rcases List.mem_cons.mp hX with rfl | hX
    · exact gx_catch [] (0, 7, 10, 14) [(0, 7, 16, 25), (0, 7, 22, 16)] rfl (fun z hz => nomatch hz) (by decide) (by decide) (z_big_of (by decide +kernel) rfl) (by decide +kernel) (gh_astore dL_assign_10 dL_assign_12 dL_assign_15 (by decide) rfl ⟨by decide, by decide⟩ (by decide) (by decide) (z_oke h1 h2 (by decide +kernel)))
    rcases List.mem_cons.mp hX with rfl | hX
    · exact gx_catch [(0, 7, 10, 14)] (0, 7, 16, 25) [(0, 7, 22, 16)] rfl (List.forall_mem_cons.mpr ⟨⟨by decide, xI, z_big_of (by decide +kernel) rfl, by decide +kernel⟩, fun z hz => nomatch hz⟩) (by decide) (by decide) (z_big_of (by decide +kernel) rfl) (by decide +kernel) (gh_astore dL_assign_16 dL_assign_18 dL_assign_21 (by decide) rfl ⟨by decide, by decide⟩ (by decide) (by decide) (z_oke h1 h2 (by decide +kernel)))
    rcases List.mem_cons.mp hX with rfl | hX
    · exact gx_catch [(0, 7, 10, 14), (0, 7, 16, 25)] (0, 7, 22, 16) [] rfl (List.forall_mem_cons.mpr ⟨⟨by decide, xI, z_big_of (by decide +kernel) rfl, by decide +kernel⟩, List.forall_mem_cons.mpr ⟨⟨by decide, xA, z_big_of (by decide +kernel) rfl, by decide +kernel⟩, fun z hz => nomatch hz⟩⟩) (by decide) (by decide) (z_big_of (by decide +kernel) rfl) (by decide +kernel) (gh_astore dL_assign_22 dL_assign_24 dL_assign_27 (by decide) rfl ⟨by decide, by decide⟩ (by decide) (by decide) (z_oke h1 h2 (by decide +kernel)))
    cases hX
  · obtain ⟨h1, h2⟩ := h
    rw [← h1] at hsh
    rcases r with _ | (z | y)
    · exact hsh.elim
    · skip
      refine g_istore_n (i := 3) (q := 7) dL_assign_6 rfl rfl (Nat.le_of_ble_eq_true rfl) ?_
      refine g_goto (q := 0) (t := 28) dL_assign_7 (by decide) ?_
      refine g_iload_n (i := 3) (q := 29) dL_assign_28 rfl rfl rfl ?_
      exact g_ret dL_assign_29 rfl (by decide) (z_okk h1 h2)
    · exact hsh.elim
theorem w_end {S : zS} {a : Int} {o : zO} (ho : z_Out mX6_end [zR 0, zI a] S o) (hsh : z_sh [xI, xS] o.1) : z_Wr mL_end [zR 0, zI a] S o := by
  refine z_enterW (by decide +kernel) (z_n1 trivial (z_n1 trivial z_n0)) (Nat.le_of_ble_eq_true rfl) ?_
  refine g_aload_n (i := 0) (q := 1) dL_end_0 rfl rfl rfl ?_
  refine g_iload_n (i := 1) (q := 2) dL_end_1 rfl rfl rfl ?_
  refine g_callV (Q' := fun x T => x = o.1 ∧ T = o.2) (as := [zI a]) (q := 5) dL_end_2 rfl ck_L_27 rfl rfl rfl (Nat.le_of_ble_eq_true rfl) (by decide) (by decide) ho (fun X T h => ?_) (fun r T h => ?_)
  · obtain ⟨h1, h2⟩ := h
    rw [← h1] at hsh
    have hX : X ∈ [xI, xS] := hsh
    rcases List.mem_cons.mp hX with rfl | hX
    · exact gx_catch [] (0, 6, 9, 14) [(0, 6, 14, 16)] rfl (fun z hz => nomatch hz) (by decide) (by decide) (z_big_of (by decide +kernel) rfl) (by decide +kernel) (gh_astore_n (i := 3) dL_end_9 rfl dL_end_10 dL_end_13 (by decide) rfl ⟨by decide, by decide⟩ (by decide) (by decide) (z_oke h1 h2 (by decide +kernel)))
    rcases List.mem_cons.mp hX with rfl | hX
    · exact gx_catch [(0, 6, 9, 14)] (0, 6, 14, 16) [] rfl (List.forall_mem_cons.mpr ⟨⟨by decide, xI, z_big_of (by decide +kernel) rfl, by decide +kernel⟩, fun z hz => nomatch hz⟩) (by decide) (by decide) (z_big_of (by decide +kernel) rfl) (by decide +kernel) (gh_astore_n (i := 3) dL_end_14 rfl dL_end_15 dL_end_18 (by decide) rfl ⟨by decide, by decide⟩ (by decide) (by decide) (z_oke h1 h2 (by decide +kernel)))
    cases hX
  · obtain ⟨h1, h2⟩ := h
    rw [← h1] at hsh
    rcases r with _ | (z | y)
    · exact hsh.elim
    · skip
      refine g_istore_n (i := 2) (q := 6) dL_end_5 rfl rfl (Nat.le_of_ble_eq_true rfl) ?_
      refine g_goto (q := 0) (t := 19) dL_end_6 (by decide) ?_
      refine g_iload_n (i := 2) (q := 20) dL_end_19 rfl rfl rfl ?_
      exact g_ret dL_end_20 rfl (by decide) (z_okk h1 h2)
    · exact hsh.elim
theorem w_swap {S : zS} {a b : Int} {o : zO} (ho : z_Out mX6_swap [zR 0, zI a, zI b] S o) (hsh : z_sh [xI, xA, xS] o.1) : z_Wr mL_swap [zR 0, zI a, zI b] S o := by
  refine z_enterW (by decide +kernel) (z_n1 trivial (z_n1 trivial (z_n1 trivial z_n0))) (Nat.le_of_ble_eq_true rfl) ?_
  refine g_aload_n (i := 0) (q := 1) dL_swap_0 rfl rfl rfl ?_
  refine g_iload_n (i := 1) (q := 2) dL_swap_1 rfl rfl rfl ?_
  refine g_iload_n (i := 2) (q := 3) dL_swap_2 rfl rfl rfl ?_
  refine g_callV (Q' := fun x T => x = o.1 ∧ T = o.2) (as := [zI a, zI b]) (q := 6) dL_swap_3 rfl ck_L_30 rfl rfl rfl (Nat.le_of_ble_eq_true rfl) (by decide) (by decide) ho (fun X T h => ?_) (fun r T h => ?_)
  · obtain ⟨h1, h2⟩ := h
    rw [← h1] at hsh
    have hX : X ∈ [xI, xA, xS] := hsh
    rcases List.mem_cons.mp hX with rfl | hX
    · exact gx_catch [] (0, 7, 10, 14) [(0, 7, 16, 25), (0, 7, 22, 16)] rfl (fun z hz => nomatch hz) (by decide) (by decide) (z_big_of (by decide +kernel) rfl) (by decide +kernel) (gh_astore dL_swap_10 dL_swap_12 dL_swap_15 (by decide) rfl ⟨by decide, by decide⟩ (by decide) (by decide) (z_oke h1 h2 (by decide +kernel)))
    rcases List.mem_cons.mp hX with rfl | hX
    · exact gx_catch [(0, 7, 10, 14)] (0, 7, 16, 25) [(0, 7, 22, 16)] rfl (List.forall_mem_cons.mpr ⟨⟨by decide, xI, z_big_of (by decide +kernel) rfl, by decide +kernel⟩, fun z hz => nomatch hz⟩) (by decide) (by decide) (z_big_of (by decide +kernel) rfl) (by decide +kernel) (gh_astore dL_swap_16 dL_swap_18 dL_swap_21 (by decide) rfl ⟨by decide, by decide⟩ (by decide) (by decide) (z_oke h1 h2 (by decide +kernel)))
    rcases List.mem_cons.mp hX with rfl | hX
    · exact gx_catch [(0, 7, 10, 14), (0, 7, 16, 25)] (0, 7, 22, 16) [] rfl (List.forall_mem_cons.mpr ⟨⟨by decide, xI, z_big_of (by decide +kernel) rfl, by decide +kernel⟩, List.forall_mem_cons.mpr ⟨⟨by decide, xA, z_big_of (by decide +kernel) rfl, by decide +kernel⟩, fun z hz => nomatch hz⟩⟩) (by decide) (by decide) (z_big_of (by decide +kernel) rfl) (by decide +kernel) (gh_astore dL_swap_22 dL_swap_24 dL_swap_27 (by decide) rfl ⟨by decide, by decide⟩ (by decide) (by decide) (z_oke h1 h2 (by decide +kernel)))
    cases hX
  · obtain ⟨h1, h2⟩ := h
    rw [← h1] at hsh
    rcases r with _ | (z | y)
    · exact hsh.elim
    · skip
      refine g_istore_n (i := 3) (q := 7) dL_swap_6 rfl rfl (Nat.le_of_ble_eq_true rfl) ?_
      refine g_goto (q := 0) (t := 28) dL_swap_7 (by decide) ?_
      refine g_iload_n (i := 3) (q := 29) dL_swap_28 rfl rfl rfl ?_
      exact g_ret dL_swap_29 rfl (by decide) (z_okk h1 h2)
    · exact hsh.elim
theorem w_emergency {S : zS} {a : Int} {o : zO} (ho : z_Out mX6_emergency [zR 0, zI a] S o) (hsh : z_sh [xI, xS] o.1) : z_Wr mL_emergency [zR 0, zI a] S o := by
  refine z_enterW (by decide +kernel) (z_n1 trivial (z_n1 trivial z_n0)) (Nat.le_of_ble_eq_true rfl) ?_
  refine g_aload_n (i := 0) (q := 1) dL_emergency_0 rfl rfl rfl ?_
  refine g_iload_n (i := 1) (q := 2) dL_emergency_1 rfl rfl rfl ?_
  refine g_callV (Q' := fun x T => x = o.1 ∧ T = o.2) (as := [zI a]) (q := 5) dL_emergency_2 rfl ck_L_33 rfl rfl rfl (Nat.le_of_ble_eq_true rfl) (by decide) (by decide) ho (fun X T h => ?_) (fun r T h => ?_)
  · obtain ⟨h1, h2⟩ := h
    rw [← h1] at hsh
    have hX : X ∈ [xI, xS] := hsh
    rcases List.mem_cons.mp hX with rfl | hX
    · exact gx_catch [] (0, 6, 9, 14) [(0, 6, 14, 16)] rfl (fun z hz => nomatch hz) (by decide) (by decide) (z_big_of (by decide +kernel) rfl) (by decide +kernel) (gh_astore_n (i := 3) dL_emergency_9 rfl dL_emergency_10 dL_emergency_13 (by decide) rfl ⟨by decide, by decide⟩ (by decide) (by decide) (z_oke h1 h2 (by decide +kernel)))
    rcases List.mem_cons.mp hX with rfl | hX
    · exact gx_catch [(0, 6, 9, 14)] (0, 6, 14, 16) [] rfl (List.forall_mem_cons.mpr ⟨⟨by decide, xI, z_big_of (by decide +kernel) rfl, by decide +kernel⟩, fun z hz => nomatch hz⟩) (by decide) (by decide) (z_big_of (by decide +kernel) rfl) (by decide +kernel) (gh_astore_n (i := 3) dL_emergency_14 rfl dL_emergency_15 dL_emergency_18 (by decide) rfl ⟨by decide, by decide⟩ (by decide) (by decide) (z_oke h1 h2 (by decide +kernel)))
    cases hX
  · obtain ⟨h1, h2⟩ := h
    rw [← h1] at hsh
    rcases r with _ | (z | y)
    · exact hsh.elim
    · skip
      refine g_istore_n (i := 2) (q := 6) dL_emergency_5 rfl rfl (Nat.le_of_ble_eq_true rfl) ?_
      refine g_goto (q := 0) (t := 19) dL_emergency_6 (by decide) ?_
      refine g_iload_n (i := 2) (q := 20) dL_emergency_19 rfl rfl rfl ?_
      exact g_ret dL_emergency_20 rfl (by decide) (z_okk h1 h2)
    · exact hsh.elim
theorem w_endFirm {S : zS} {a b : Int} {o : zO} (ho : z_Out mX6_endFirm [zR 0, zI a, zI b] S o) (hsh : z_sh [xI, xA, xS] o.1) : z_Wr mL_endFirm [zR 0, zI a, zI b] S o := by
  refine z_enterW (by decide +kernel) (z_n1 trivial (z_n1 trivial (z_n1 trivial z_n0))) (Nat.le_of_ble_eq_true rfl) ?_
  refine g_aload_n (i := 0) (q := 1) dL_endFirm_0 rfl rfl rfl ?_
  refine g_iload_n (i := 1) (q := 2) dL_endFirm_1 rfl rfl rfl ?_
  refine g_iload_n (i := 2) (q := 3) dL_endFirm_2 rfl rfl rfl ?_
  refine g_callV (Q' := fun x T => x = o.1 ∧ T = o.2) (as := [zI a, zI b]) (q := 6) dL_endFirm_3 rfl ck_L_36 rfl rfl rfl (Nat.le_of_ble_eq_true rfl) (by decide) (by decide) ho (fun X T h => ?_) (fun r T h => ?_)
  · obtain ⟨h1, h2⟩ := h
    rw [← h1] at hsh
    have hX : X ∈ [xI, xA, xS] := hsh
    rcases List.mem_cons.mp hX with rfl | hX
    · exact gx_catch [] (0, 7, 10, 14) [(0, 7, 16, 25), (0, 7, 22, 16)] rfl (fun z hz => nomatch hz) (by decide) (by decide) (z_big_of (by decide +kernel) rfl) (by decide +kernel) (gh_astore dL_endFirm_10 dL_endFirm_12 dL_endFirm_15 (by decide) rfl ⟨by decide, by decide⟩ (by decide) (by decide) (z_oke h1 h2 (by decide +kernel)))
    rcases List.mem_cons.mp hX with rfl | hX
    · exact gx_catch [(0, 7, 10, 14)] (0, 7, 16, 25) [(0, 7, 22, 16)] rfl (List.forall_mem_cons.mpr ⟨⟨by decide, xI, z_big_of (by decide +kernel) rfl, by decide +kernel⟩, fun z hz => nomatch hz⟩) (by decide) (by decide) (z_big_of (by decide +kernel) rfl) (by decide +kernel) (gh_astore dL_endFirm_16 dL_endFirm_18 dL_endFirm_21 (by decide) rfl ⟨by decide, by decide⟩ (by decide) (by decide) (z_oke h1 h2 (by decide +kernel)))
    rcases List.mem_cons.mp hX with rfl | hX
    · exact gx_catch [(0, 7, 10, 14), (0, 7, 16, 25)] (0, 7, 22, 16) [] rfl (List.forall_mem_cons.mpr ⟨⟨by decide, xI, z_big_of (by decide +kernel) rfl, by decide +kernel⟩, List.forall_mem_cons.mpr ⟨⟨by decide, xA, z_big_of (by decide +kernel) rfl, by decide +kernel⟩, fun z hz => nomatch hz⟩⟩) (by decide) (by decide) (z_big_of (by decide +kernel) rfl) (by decide +kernel) (gh_astore dL_endFirm_22 dL_endFirm_24 dL_endFirm_27 (by decide) rfl ⟨by decide, by decide⟩ (by decide) (by decide) (z_oke h1 h2 (by decide +kernel)))
    cases hX
  · obtain ⟨h1, h2⟩ := h
    rw [← h1] at hsh
    rcases r with _ | (z | y)
    · exact hsh.elim
    · skip
      refine g_istore_n (i := 3) (q := 7) dL_endFirm_6 rfl rfl (Nat.le_of_ble_eq_true rfl) ?_
      refine g_goto (q := 0) (t := 28) dL_endFirm_7 (by decide) ?_
      refine g_iload_n (i := 3) (q := 29) dL_endFirm_28 rfl rfl rfl ?_
      exact g_ret dL_endFirm_29 rfl (by decide) (z_okk h1 h2)
    · exact hsh.elim
theorem w_order {S : zS} {a b c d : Int} {o : zO} (ho : z_Out mX6_order [zR 0, zI a, zI b, zI c, zI d] S o) (hsh : z_sh [xI, xA, xS] o.1) : z_Wr mL_order [zR 0, zI a, zI b, zI c, zI d] S o := by
  refine z_enterW (by decide +kernel) (z_n1 trivial (z_n1 trivial (z_n1 trivial (z_n1 trivial (z_n1 trivial z_n0))))) (Nat.le_of_ble_eq_true rfl) ?_
  refine g_aload_n (i := 0) (q := 1) dL_order_0 rfl rfl rfl ?_
  refine g_iload_n (i := 1) (q := 2) dL_order_1 rfl rfl rfl ?_
  refine g_iload_n (i := 2) (q := 3) dL_order_2 rfl rfl rfl ?_
  refine g_iload_n (i := 3) (q := 4) dL_order_3 rfl rfl rfl ?_
  refine g_iload (q := 6) dL_order_4 rfl rfl ?_
  refine g_callV (Q' := fun x T => x = o.1 ∧ T = o.2) (as := [zI a, zI b, zI c, zI d]) (q := 9) dL_order_6 rfl ck_L_39 rfl rfl rfl (Nat.le_of_ble_eq_true rfl) (by decide) (by decide) ho (fun X T h => ?_) (fun r T h => ?_)
  · obtain ⟨h1, h2⟩ := h
    rw [← h1] at hsh
    have hX : X ∈ [xI, xA, xS] := hsh
    rcases List.mem_cons.mp hX with rfl | hX
    · exact gx_catch [] (0, 11, 14, 14) [(0, 11, 20, 25), (0, 11, 26, 16)] rfl (fun z hz => nomatch hz) (by decide) (by decide) (z_big_of (by decide +kernel) rfl) (by decide +kernel) (gh_astore dL_order_14 dL_order_16 dL_order_19 (by decide) rfl ⟨by decide, by decide⟩ (by decide) (by decide) (z_oke h1 h2 (by decide +kernel)))
    rcases List.mem_cons.mp hX with rfl | hX
    · exact gx_catch [(0, 11, 14, 14)] (0, 11, 20, 25) [(0, 11, 26, 16)] rfl (List.forall_mem_cons.mpr ⟨⟨by decide, xI, z_big_of (by decide +kernel) rfl, by decide +kernel⟩, fun z hz => nomatch hz⟩) (by decide) (by decide) (z_big_of (by decide +kernel) rfl) (by decide +kernel) (gh_astore dL_order_20 dL_order_22 dL_order_25 (by decide) rfl ⟨by decide, by decide⟩ (by decide) (by decide) (z_oke h1 h2 (by decide +kernel)))
    rcases List.mem_cons.mp hX with rfl | hX
    · exact gx_catch [(0, 11, 14, 14), (0, 11, 20, 25)] (0, 11, 26, 16) [] rfl (List.forall_mem_cons.mpr ⟨⟨by decide, xI, z_big_of (by decide +kernel) rfl, by decide +kernel⟩, List.forall_mem_cons.mpr ⟨⟨by decide, xA, z_big_of (by decide +kernel) rfl, by decide +kernel⟩, fun z hz => nomatch hz⟩⟩) (by decide) (by decide) (z_big_of (by decide +kernel) rfl) (by decide +kernel) (gh_astore dL_order_26 dL_order_28 dL_order_31 (by decide) rfl ⟨by decide, by decide⟩ (by decide) (by decide) (z_oke h1 h2 (by decide +kernel)))
    cases hX
  · obtain ⟨h1, h2⟩ := h
    rw [← h1] at hsh
    rcases r with _ | (z | y)
    · exact hsh.elim
    · skip
      refine g_istore (q := 11) dL_order_9 rfl (Nat.le_of_ble_eq_true rfl) ?_
      refine g_goto (q := 0) (t := 32) dL_order_11 (by decide) ?_
      refine g_iload (q := 34) dL_order_32 rfl rfl ?_
      exact g_ret dL_order_34 rfl (by decide) (z_okk h1 h2)
    · exact hsh.elim
theorem w_cancel {S : zS} {a : Int} {o : zO} (ho : z_Out mX6_cancel [zR 0, zI a] S o) (hsh : z_sh [xI, xS] o.1) : z_Wr mL_cancel [zR 0, zI a] S o := by
  refine z_enterW (by decide +kernel) (z_n1 trivial (z_n1 trivial z_n0)) (Nat.le_of_ble_eq_true rfl) ?_
  refine g_aload_n (i := 0) (q := 1) dL_cancel_0 rfl rfl rfl ?_
  refine g_iload_n (i := 1) (q := 2) dL_cancel_1 rfl rfl rfl ?_
  refine g_callV (Q' := fun x T => x = o.1 ∧ T = o.2) (as := [zI a]) (q := 5) dL_cancel_2 rfl ck_L_43 rfl rfl rfl (Nat.le_of_ble_eq_true rfl) (by decide) (by decide) ho (fun X T h => ?_) (fun r T h => ?_)
  · obtain ⟨h1, h2⟩ := h
    rw [← h1] at hsh
    have hX : X ∈ [xI, xS] := hsh
    rcases List.mem_cons.mp hX with rfl | hX
    · exact gx_catch [] (0, 6, 9, 14) [(0, 6, 14, 16)] rfl (fun z hz => nomatch hz) (by decide) (by decide) (z_big_of (by decide +kernel) rfl) (by decide +kernel) (gh_astore_n (i := 3) dL_cancel_9 rfl dL_cancel_10 dL_cancel_13 (by decide) rfl ⟨by decide, by decide⟩ (by decide) (by decide) (z_oke h1 h2 (by decide +kernel)))
    rcases List.mem_cons.mp hX with rfl | hX
    · exact gx_catch [(0, 6, 9, 14)] (0, 6, 14, 16) [] rfl (List.forall_mem_cons.mpr ⟨⟨by decide, xI, z_big_of (by decide +kernel) rfl, by decide +kernel⟩, fun z hz => nomatch hz⟩) (by decide) (by decide) (z_big_of (by decide +kernel) rfl) (by decide +kernel) (gh_astore_n (i := 3) dL_cancel_14 rfl dL_cancel_15 dL_cancel_18 (by decide) rfl ⟨by decide, by decide⟩ (by decide) (by decide) (z_oke h1 h2 (by decide +kernel)))
    cases hX
  · obtain ⟨h1, h2⟩ := h
    rw [← h1] at hsh
    rcases r with _ | (z | y)
    · exact hsh.elim
    · skip
      refine g_istore_n (i := 2) (q := 6) dL_cancel_5 rfl rfl (Nat.le_of_ble_eq_true rfl) ?_
      refine g_goto (q := 0) (t := 19) dL_cancel_6 (by decide) ?_
      refine g_iload_n (i := 2) (q := 20) dL_cancel_19 rfl rfl rfl ?_
      exact g_ret dL_cancel_20 rfl (by decide) (z_okk h1 h2)
    · exact hsh.elim
theorem w_reverse {S : zS} {a : Int} {o : zO} (ho : z_Out mX6_reverse [zR 0, zI a] S o) (hsh : z_sh [xI, xS] o.1) : z_Wr mL_reverse [zR 0, zI a] S o := by
  refine z_enterW (by decide +kernel) (z_n1 trivial (z_n1 trivial z_n0)) (Nat.le_of_ble_eq_true rfl) ?_
  refine g_aload_n (i := 0) (q := 1) dL_reverse_0 rfl rfl rfl ?_
  refine g_iload_n (i := 1) (q := 2) dL_reverse_1 rfl rfl rfl ?_
  refine g_callV (Q' := fun x T => x = o.1 ∧ T = o.2) (as := [zI a]) (q := 5) dL_reverse_2 rfl ck_L_46 rfl rfl rfl (Nat.le_of_ble_eq_true rfl) (by decide) (by decide) ho (fun X T h => ?_) (fun r T h => ?_)
  · obtain ⟨h1, h2⟩ := h
    rw [← h1] at hsh
    have hX : X ∈ [xI, xS] := hsh
    rcases List.mem_cons.mp hX with rfl | hX
    · exact gx_catch [] (0, 6, 9, 14) [(0, 6, 14, 16)] rfl (fun z hz => nomatch hz) (by decide) (by decide) (z_big_of (by decide +kernel) rfl) (by decide +kernel) (gh_astore_n (i := 3) dL_reverse_9 rfl dL_reverse_10 dL_reverse_13 (by decide) rfl ⟨by decide, by decide⟩ (by decide) (by decide) (z_oke h1 h2 (by decide +kernel)))
    rcases List.mem_cons.mp hX with rfl | hX
    · exact gx_catch [(0, 6, 9, 14)] (0, 6, 14, 16) [] rfl (List.forall_mem_cons.mpr ⟨⟨by decide, xI, z_big_of (by decide +kernel) rfl, by decide +kernel⟩, fun z hz => nomatch hz⟩) (by decide) (by decide) (z_big_of (by decide +kernel) rfl) (by decide +kernel) (gh_astore_n (i := 3) dL_reverse_14 rfl dL_reverse_15 dL_reverse_18 (by decide) rfl ⟨by decide, by decide⟩ (by decide) (by decide) (z_oke h1 h2 (by decide +kernel)))
    cases hX
  · obtain ⟨h1, h2⟩ := h
    rw [← h1] at hsh
    rcases r with _ | (z | y)
    · exact hsh.elim
    · skip
      refine g_istore_n (i := 2) (q := 6) dL_reverse_5 rfl rfl (Nat.le_of_ble_eq_true rfl) ?_
      refine g_goto (q := 0) (t := 19) dL_reverse_6 (by decide) ?_
      refine g_iload_n (i := 2) (q := 20) dL_reverse_19 rfl rfl rfl ?_
      exact g_ret dL_reverse_20 rfl (by decide) (z_okk h1 h2)
    · exact hsh.elim
theorem w_pass {S : zS} {a : Int} {o : zO} (ho : z_Out mX6_pass [zR 0, zI a] S o) (hsh : z_sh [xA, xS] o.1) : z_Wr mL_pass [zR 0, zI a] S o := by
  refine z_enterW (by decide +kernel) (z_n1 trivial (z_n1 trivial z_n0)) (Nat.le_of_ble_eq_true rfl) ?_
  refine g_aload_n (i := 0) (q := 1) dL_pass_0 rfl rfl rfl ?_
  refine g_iload_n (i := 1) (q := 2) dL_pass_1 rfl rfl rfl ?_
  refine g_callV (Q' := fun x T => x = o.1 ∧ T = o.2) (as := [zI a]) (q := 5) dL_pass_2 rfl ck_L_49 rfl rfl rfl (Nat.le_of_ble_eq_true rfl) (by decide) (by decide) ho (fun X T h => ?_) (fun r T h => ?_)
  · obtain ⟨h1, h2⟩ := h
    rw [← h1] at hsh
    have hX : X ∈ [xA, xS] := hsh
    rcases List.mem_cons.mp hX with rfl | hX
    · exact gx_catch [] (0, 6, 9, 25) [(0, 6, 14, 16)] rfl (fun z hz => nomatch hz) (by decide) (by decide) (z_big_of (by decide +kernel) rfl) (by decide +kernel) (gh_astore_n (i := 3) dL_pass_9 rfl dL_pass_10 dL_pass_13 (by decide) rfl ⟨by decide, by decide⟩ (by decide) (by decide) (z_oke h1 h2 (by decide +kernel)))
    rcases List.mem_cons.mp hX with rfl | hX
    · exact gx_catch [(0, 6, 9, 25)] (0, 6, 14, 16) [] rfl (List.forall_mem_cons.mpr ⟨⟨by decide, xA, z_big_of (by decide +kernel) rfl, by decide +kernel⟩, fun z hz => nomatch hz⟩) (by decide) (by decide) (z_big_of (by decide +kernel) rfl) (by decide +kernel) (gh_astore_n (i := 3) dL_pass_14 rfl dL_pass_15 dL_pass_18 (by decide) rfl ⟨by decide, by decide⟩ (by decide) (by decide) (z_oke h1 h2 (by decide +kernel)))
    cases hX
  · obtain ⟨h1, h2⟩ := h
    rw [← h1] at hsh
    rcases r with _ | (z | y)
    · exact hsh.elim
    · skip
      refine g_istore_n (i := 2) (q := 6) dL_pass_5 rfl rfl (Nat.le_of_ble_eq_true rfl) ?_
      refine g_goto (q := 0) (t := 19) dL_pass_6 (by decide) ?_
      refine g_iload_n (i := 2) (q := 20) dL_pass_19 rfl rfl rfl ?_
      exact g_ret dL_pass_20 rfl (by decide) (z_okk h1 h2)
    · exact hsh.elim
theorem w_setLag {S : zS} {a b : Int} {o : zO} (ho : z_Out mX6_setLag [zR 0, zI a, zI b] S o) (hsh : z_sh [xI, xA] o.1) : z_Wr mL_setLag [zR 0, zI a, zI b] S o := by
  refine z_enterW (by decide +kernel) (z_n1 trivial (z_n1 trivial (z_n1 trivial z_n0))) (Nat.le_of_ble_eq_true rfl) ?_
  refine g_aload_n (i := 0) (q := 1) dL_setLag_0 rfl rfl rfl ?_
  refine g_iload_n (i := 1) (q := 2) dL_setLag_1 rfl rfl rfl ?_
  refine g_iload_n (i := 2) (q := 3) dL_setLag_2 rfl rfl rfl ?_
  refine g_callV (Q' := fun x T => x = o.1 ∧ T = o.2) (as := [zI a, zI b]) (q := 6) dL_setLag_3 rfl ck_L_52 rfl rfl rfl (Nat.le_of_ble_eq_true rfl) (by decide) (by decide) ho (fun X T h => ?_) (fun r T h => ?_)
  · obtain ⟨h1, h2⟩ := h
    rw [← h1] at hsh
    have hX : X ∈ [xI, xA] := hsh
    rcases List.mem_cons.mp hX with rfl | hX
    · exact gx_catch [] (0, 7, 10, 14) [(0, 7, 16, 25)] rfl (fun z hz => nomatch hz) (by decide) (by decide) (z_big_of (by decide +kernel) rfl) (by decide +kernel) (gh_astore dL_setLag_10 dL_setLag_12 dL_setLag_15 (by decide) rfl ⟨by decide, by decide⟩ (by decide) (by decide) (z_oke h1 h2 (by decide +kernel)))
    rcases List.mem_cons.mp hX with rfl | hX
    · exact gx_catch [(0, 7, 10, 14)] (0, 7, 16, 25) [] rfl (List.forall_mem_cons.mpr ⟨⟨by decide, xI, z_big_of (by decide +kernel) rfl, by decide +kernel⟩, fun z hz => nomatch hz⟩) (by decide) (by decide) (z_big_of (by decide +kernel) rfl) (by decide +kernel) (gh_astore dL_setLag_16 dL_setLag_18 dL_setLag_21 (by decide) rfl ⟨by decide, by decide⟩ (by decide) (by decide) (z_oke h1 h2 (by decide +kernel)))
    cases hX
  · obtain ⟨h1, h2⟩ := h
    rw [← h1] at hsh
    rcases r with _ | (z | y)
    · exact hsh.elim
    · skip
      refine g_istore_n (i := 3) (q := 7) dL_setLag_6 rfl rfl (Nat.le_of_ble_eq_true rfl) ?_
      refine g_goto (q := 0) (t := 22) dL_setLag_7 (by decide) ?_
      refine g_iload_n (i := 3) (q := 23) dL_setLag_22 rfl rfl rfl ?_
      exact g_ret dL_setLag_23 rfl (by decide) (z_okk h1 h2)
    · exact hsh.elim
theorem w_setDown {S : zS} {a b : Int} {o : zO} (ho : z_Out mX6_setDown [zR 0, zI a, zI b] S o) (hsh : z_sh [xI] o.1) (hz : ∀ z, zI? z = o.1 → z = 0 ∨ z = 1) : z_Wr mL_setDown [zR 0, zI a, zI b] S o := by
  refine z_enterW (by decide +kernel) (z_n1 trivial (z_n1 trivial (z_n1 trivial z_n0))) (Nat.le_of_ble_eq_true rfl) ?_
  refine g_aload_n (i := 0) (q := 1) dL_setDown_0 rfl rfl rfl ?_
  refine g_iload_n (i := 1) (q := 2) dL_setDown_1 rfl rfl rfl ?_
  refine g_iload_n (i := 2) (q := 3) dL_setDown_2 rfl rfl rfl ?_
  refine g_callV (Q' := fun x T => x = o.1 ∧ T = o.2) (as := [zI a, zI b]) (q := 6) dL_setDown_3 rfl ck_L_55 rfl rfl rfl (Nat.le_of_ble_eq_true rfl) (by decide) (by decide) ho (fun X T h => ?_) (fun r T h => ?_)
  · obtain ⟨h1, h2⟩ := h
    rw [← h1] at hsh
    have hX : X ∈ [xI] := hsh
    rcases List.mem_cons.mp hX with rfl | hX
    · exact gx_catch [] (0, 7, 10, 14) [] rfl (fun z hz => nomatch hz) (by decide) (by decide) (z_big_of (by decide +kernel) rfl) (by decide +kernel) (gh_astore dL_setDown_10 dL_setDown_12 dL_setDown_15 (by decide) rfl ⟨by decide, by decide⟩ (by decide) (by decide) (z_oke h1 h2 (by decide +kernel)))
    cases hX
  · obtain ⟨h1, h2⟩ := h
    rw [← h1] at hsh
    rcases r with _ | (z | y)
    · exact hsh.elim
    · have hz2 := hz z h1
      rcases hz2 with rfl | rfl
      · skip
        refine g_istore_n (i := 3) (q := 7) dL_setDown_6 rfl rfl (Nat.le_of_ble_eq_true rfl) ?_
        refine g_goto (q := 0) (t := 16) dL_setDown_7 (by decide) ?_
        refine g_iload_n (i := 3) (q := 17) dL_setDown_16 rfl rfl rfl ?_
        refine g_if_eq (t := 24) (q := 20) dL_setDown_17 (by decide) rfl (fun h17 => ?_) (fun h17 => (False.elim (by omega)))
        refine g_iconst (q := 25) dL_setDown_24 rfl ⟨by decide, by decide⟩ ?_
        exact g_ret dL_setDown_25 rfl (by decide) (z_okk h1 h2)
      · skip
        refine g_istore_n (i := 3) (q := 7) dL_setDown_6 rfl rfl (Nat.le_of_ble_eq_true rfl) ?_
        refine g_goto (q := 0) (t := 16) dL_setDown_7 (by decide) ?_
        refine g_iload_n (i := 3) (q := 17) dL_setDown_16 rfl rfl rfl ?_
        refine g_if_eq (t := 24) (q := 20) dL_setDown_17 (by decide) rfl (fun h17 => (False.elim (by omega))) (fun h17 => ?_)
        refine g_iconst (q := 21) dL_setDown_20 rfl ⟨by decide, by decide⟩ ?_
        refine g_goto (q := 0) (t := 25) dL_setDown_21 (by decide) ?_
        exact g_ret dL_setDown_25 rfl (by decide) (z_okk h1 h2)
    · exact hsh.elim
theorem w_correct {S : zS} {a : Int} {o : zO} (ho : z_Out mX6_correct [zR 0, zI a] S o) (hsh : z_sh [xI] o.1) : z_Wr mL_correct [zR 0, zI a] S o := by
  refine z_enterW (by decide +kernel) (z_n1 trivial (z_n1 trivial z_n0)) (Nat.le_of_ble_eq_true rfl) ?_
  refine g_aload_n (i := 0) (q := 1) dL_correct_0 rfl rfl rfl ?_
  refine g_iload_n (i := 1) (q := 2) dL_correct_1 rfl rfl rfl ?_
  refine g_callV (Q' := fun x T => x = o.1 ∧ T = o.2) (as := [zI a]) (q := 5) dL_correct_2 rfl ck_L_59 rfl rfl rfl (Nat.le_of_ble_eq_true rfl) (by decide) (by decide) ho (fun X T h => ?_) (fun r T h => ?_)
  · obtain ⟨h1, h2⟩ := h
    rw [← h1] at hsh
    have hX : X ∈ [xI] := hsh
    rcases List.mem_cons.mp hX with rfl | hX
    · exact gx_catch [] (0, 6, 9, 14) [] rfl (fun z hz => nomatch hz) (by decide) (by decide) (z_big_of (by decide +kernel) rfl) (by decide +kernel) (gh_astore_n (i := 3) dL_correct_9 rfl dL_correct_10 dL_correct_13 (by decide) rfl ⟨by decide, by decide⟩ (by decide) (by decide) (z_oke h1 h2 (by decide +kernel)))
    cases hX
  · obtain ⟨h1, h2⟩ := h
    rw [← h1] at hsh
    rcases r with _ | (z | y)
    · exact hsh.elim
    · skip
      refine g_istore_n (i := 2) (q := 6) dL_correct_5 rfl rfl (Nat.le_of_ble_eq_true rfl) ?_
      refine g_goto (q := 0) (t := 14) dL_correct_6 (by decide) ?_
      refine g_iload_n (i := 2) (q := 15) dL_correct_14 rfl rfl rfl ?_
      exact g_ret dL_correct_15 rfl (by decide) (z_okk h1 h2)
    · exact hsh.elim
theorem w_server {S : zS} {a : Int} {o : zO} (ho : z_Out mX6_server [zR 0, zI a] S o) (hsh : z_sh [xI] o.1) : z_Wr mL_server [zR 0, zI a] S o := by
  refine z_enterW (by decide +kernel) (z_n1 trivial (z_n1 trivial z_n0)) (Nat.le_of_ble_eq_true rfl) ?_
  refine g_aload_n (i := 0) (q := 1) dL_server_0 rfl rfl rfl ?_
  refine g_iload_n (i := 1) (q := 2) dL_server_1 rfl rfl rfl ?_
  refine g_callV (Q' := fun x T => x = o.1 ∧ T = o.2) (as := [zI a]) (q := 5) dL_server_2 rfl ck_L_62 rfl rfl rfl (Nat.le_of_ble_eq_true rfl) (by decide) (by decide) ho (fun X T h => ?_) (fun r T h => ?_)
  · obtain ⟨h1, h2⟩ := h
    rw [← h1] at hsh
    have hX : X ∈ [xI] := hsh
    rcases List.mem_cons.mp hX with rfl | hX
    · exact gx_catch [] (0, 6, 9, 14) [] rfl (fun z hz => nomatch hz) (by decide) (by decide) (z_big_of (by decide +kernel) rfl) (by decide +kernel) (gh_astore_n (i := 3) dL_server_9 rfl dL_server_10 dL_server_13 (by decide) rfl ⟨by decide, by decide⟩ (by decide) (by decide) (z_oke h1 h2 (by decide +kernel)))
    cases hX
  · obtain ⟨h1, h2⟩ := h
    rw [← h1] at hsh
    rcases r with _ | (z | y)
    · exact hsh.elim
    · skip
      refine g_istore_n (i := 2) (q := 6) dL_server_5 rfl rfl (Nat.le_of_ble_eq_true rfl) ?_
      refine g_goto (q := 0) (t := 14) dL_server_6 (by decide) ?_
      refine g_iload_n (i := 2) (q := 15) dL_server_14 rfl rfl rfl ?_
      exact g_ret dL_server_15 rfl (by decide) (z_okk h1 h2)
    · exact hsh.elim
theorem w_serverAnew {S : zS} {a : Int} {o : zO} (ho : z_Out mX6_serverAnew [zR 0, zI a] S o) (hsh : z_sh [xI] o.1) : z_Wr mL_serverAnew [zR 0, zI a] S o := by
  refine z_enterW (by decide +kernel) (z_n1 trivial (z_n1 trivial z_n0)) (Nat.le_of_ble_eq_true rfl) ?_
  refine g_aload_n (i := 0) (q := 1) dL_serverAnew_0 rfl rfl rfl ?_
  refine g_iload_n (i := 1) (q := 2) dL_serverAnew_1 rfl rfl rfl ?_
  refine g_callV (Q' := fun x T => x = o.1 ∧ T = o.2) (as := [zI a]) (q := 5) dL_serverAnew_2 rfl ck_L_65 rfl rfl rfl (Nat.le_of_ble_eq_true rfl) (by decide) (by decide) ho (fun X T h => ?_) (fun r T h => ?_)
  · obtain ⟨h1, h2⟩ := h
    rw [← h1] at hsh
    have hX : X ∈ [xI] := hsh
    rcases List.mem_cons.mp hX with rfl | hX
    · exact gx_catch [] (0, 6, 9, 14) [] rfl (fun z hz => nomatch hz) (by decide) (by decide) (z_big_of (by decide +kernel) rfl) (by decide +kernel) (gh_astore_n (i := 3) dL_serverAnew_9 rfl dL_serverAnew_10 dL_serverAnew_13 (by decide) rfl ⟨by decide, by decide⟩ (by decide) (by decide) (z_oke h1 h2 (by decide +kernel)))
    cases hX
  · obtain ⟨h1, h2⟩ := h
    rw [← h1] at hsh
    rcases r with _ | (z | y)
    · exact hsh.elim
    · skip
      refine g_istore_n (i := 2) (q := 6) dL_serverAnew_5 rfl rfl (Nat.le_of_ble_eq_true rfl) ?_
      refine g_goto (q := 0) (t := 14) dL_serverAnew_6 (by decide) ?_
      refine g_iload_n (i := 2) (q := 15) dL_serverAnew_14 rfl rfl rfl ?_
      exact g_ret dL_serverAnew_15 rfl (by decide) (z_okk h1 h2)
    · exact hsh.elim
theorem w_number {S : zS} {a b : Int} {o : zO} (ho : z_Out mX6_number [zR 0, zI a, zI b] S o) (hsh : z_sh [xI, xA] o.1) : z_Wr mL_number [zR 0, zI a, zI b] S o := by
  refine z_enterW (by decide +kernel) (z_n1 trivial (z_n1 trivial (z_n1 trivial z_n0))) (Nat.le_of_ble_eq_true rfl) ?_
  refine g_aload_n (i := 0) (q := 1) dL_number_0 rfl rfl rfl ?_
  refine g_iload_n (i := 1) (q := 2) dL_number_1 rfl rfl rfl ?_
  refine g_iload_n (i := 2) (q := 3) dL_number_2 rfl rfl rfl ?_
  refine g_callV (Q' := fun x T => x = o.1 ∧ T = o.2) (as := [zI a, zI b]) (q := 6) dL_number_3 rfl ck_L_68 rfl rfl rfl (Nat.le_of_ble_eq_true rfl) (by decide) (by decide) ho (fun X T h => ?_) (fun r T h => ?_)
  · obtain ⟨h1, h2⟩ := h
    rw [← h1] at hsh
    have hX : X ∈ [xI, xA] := hsh
    rcases List.mem_cons.mp hX with rfl | hX
    · exact gx_catch [] (0, 7, 10, 14) [(0, 7, 16, 25)] rfl (fun z hz => nomatch hz) (by decide) (by decide) (z_big_of (by decide +kernel) rfl) (by decide +kernel) (gh_astore dL_number_10 dL_number_12 dL_number_15 (by decide) rfl ⟨by decide, by decide⟩ (by decide) (by decide) (z_oke h1 h2 (by decide +kernel)))
    rcases List.mem_cons.mp hX with rfl | hX
    · exact gx_catch [(0, 7, 10, 14)] (0, 7, 16, 25) [] rfl (List.forall_mem_cons.mpr ⟨⟨by decide, xI, z_big_of (by decide +kernel) rfl, by decide +kernel⟩, fun z hz => nomatch hz⟩) (by decide) (by decide) (z_big_of (by decide +kernel) rfl) (by decide +kernel) (gh_astore dL_number_16 dL_number_18 dL_number_21 (by decide) rfl ⟨by decide, by decide⟩ (by decide) (by decide) (z_oke h1 h2 (by decide +kernel)))
    cases hX
  · obtain ⟨h1, h2⟩ := h
    rw [← h1] at hsh
    rcases r with _ | (z | y)
    · exact hsh.elim
    · skip
      refine g_istore_n (i := 3) (q := 7) dL_number_6 rfl rfl (Nat.le_of_ble_eq_true rfl) ?_
      refine g_goto (q := 0) (t := 22) dL_number_7 (by decide) ?_
      refine g_iload_n (i := 3) (q := 23) dL_number_22 rfl rfl rfl ?_
      exact g_ret dL_number_23 rfl (by decide) (z_okk h1 h2)
    · exact hsh.elim
theorem w_of {S : zS} {a b : Int} {o : zO} (ho : z_Out mX6_of [zR 0, zI a, zI b] S o) (hsh : z_sh [xI, xA] o.1) : z_Wr mL_of [zR 0, zI a, zI b] S o := by
  refine z_enterW (by decide +kernel) (z_n1 trivial (z_n1 trivial (z_n1 trivial z_n0))) (Nat.le_of_ble_eq_true rfl) ?_
  refine g_aload_n (i := 0) (q := 1) dL_of_0 rfl rfl rfl ?_
  refine g_iload_n (i := 1) (q := 2) dL_of_1 rfl rfl rfl ?_
  refine g_iload_n (i := 2) (q := 3) dL_of_2 rfl rfl rfl ?_
  refine g_callV (Q' := fun x T => x = o.1 ∧ T = o.2) (as := [zI a, zI b]) (q := 6) dL_of_3 rfl ck_L_71 rfl rfl rfl (Nat.le_of_ble_eq_true rfl) (by decide) (by decide) ho (fun X T h => ?_) (fun r T h => ?_)
  · obtain ⟨h1, h2⟩ := h
    rw [← h1] at hsh
    have hX : X ∈ [xI, xA] := hsh
    rcases List.mem_cons.mp hX with rfl | hX
    · exact gx_catch [] (0, 7, 10, 14) [(0, 7, 16, 25)] rfl (fun z hz => nomatch hz) (by decide) (by decide) (z_big_of (by decide +kernel) rfl) (by decide +kernel) (gh_astore dL_of_10 dL_of_12 dL_of_15 (by decide) rfl ⟨by decide, by decide⟩ (by decide) (by decide) (z_oke h1 h2 (by decide +kernel)))
    rcases List.mem_cons.mp hX with rfl | hX
    · exact gx_catch [(0, 7, 10, 14)] (0, 7, 16, 25) [] rfl (List.forall_mem_cons.mpr ⟨⟨by decide, xI, z_big_of (by decide +kernel) rfl, by decide +kernel⟩, fun z hz => nomatch hz⟩) (by decide) (by decide) (z_big_of (by decide +kernel) rfl) (by decide +kernel) (gh_astore dL_of_16 dL_of_18 dL_of_21 (by decide) rfl ⟨by decide, by decide⟩ (by decide) (by decide) (z_oke h1 h2 (by decide +kernel)))
    cases hX
  · obtain ⟨h1, h2⟩ := h
    rw [← h1] at hsh
    rcases r with _ | (z | y)
    · exact hsh.elim
    · skip
      refine g_istore_n (i := 3) (q := 7) dL_of_6 rfl rfl (Nat.le_of_ble_eq_true rfl) ?_
      refine g_goto (q := 0) (t := 22) dL_of_7 (by decide) ?_
      refine g_iload_n (i := 3) (q := 23) dL_of_22 rfl rfl rfl ?_
      exact g_ret dL_of_23 rfl (by decide) (z_okk h1 h2)
    · exact hsh.elim
theorem w_room {S : zS} {a : Int} {o : zO} (ho : z_Out mX6_room [zR 0, zI a] S o) (hsh : z_sh [xA] o.1) : z_Wr mL_room [zR 0, zI a] S o := by
  refine z_enterW (by decide +kernel) (z_n1 trivial (z_n1 trivial z_n0)) (Nat.le_of_ble_eq_true rfl) ?_
  refine g_aload_n (i := 0) (q := 1) dL_room_0 rfl rfl rfl ?_
  refine g_iload_n (i := 1) (q := 2) dL_room_1 rfl rfl rfl ?_
  refine g_callV (Q' := fun x T => x = o.1 ∧ T = o.2) (as := [zI a]) (q := 5) dL_room_2 rfl ck_L_74 rfl rfl rfl (Nat.le_of_ble_eq_true rfl) (by decide) (by decide) ho (fun X T h => ?_) (fun r T h => ?_)
  · obtain ⟨h1, h2⟩ := h
    rw [← h1] at hsh
    have hX : X ∈ [xA] := hsh
    rcases List.mem_cons.mp hX with rfl | hX
    · exact gx_catch [] (0, 6, 9, 25) [] rfl (fun z hz => nomatch hz) (by decide) (by decide) (z_big_of (by decide +kernel) rfl) (by decide +kernel) (gh_astore_n (i := 3) dL_room_9 rfl dL_room_10 dL_room_13 (by decide) rfl ⟨by decide, by decide⟩ (by decide) (by decide) (z_oke h1 h2 (by decide +kernel)))
    cases hX
  · obtain ⟨h1, h2⟩ := h
    rw [← h1] at hsh
    rcases r with _ | (z | y)
    · exact hsh.elim
    · skip
      refine g_istore_n (i := 2) (q := 6) dL_room_5 rfl rfl (Nat.le_of_ble_eq_true rfl) ?_
      refine g_goto (q := 0) (t := 14) dL_room_6 (by decide) ?_
      refine g_iload_n (i := 2) (q := 15) dL_room_14 rfl rfl rfl ?_
      exact g_ret dL_room_15 rfl (by decide) (z_okk h1 h2)
    · exact hsh.elim
theorem w_firm {S : zS} {a b : Int} {o : zO} (ho : z_Out mX6_firm [zR 0, zI a, zI b] S o) (hsh : z_sh [xI, xA] o.1) : z_Wr mL_firm [zR 0, zI a, zI b] S o := by
  refine z_enterW (by decide +kernel) (z_n1 trivial (z_n1 trivial (z_n1 trivial z_n0))) (Nat.le_of_ble_eq_true rfl) ?_
  refine g_aload_n (i := 0) (q := 1) dL_firm_0 rfl rfl rfl ?_
  refine g_iload_n (i := 1) (q := 2) dL_firm_1 rfl rfl rfl ?_
  refine g_iload_n (i := 2) (q := 3) dL_firm_2 rfl rfl rfl ?_
  refine g_callV (Q' := fun x T => x = o.1 ∧ T = o.2) (as := [zI a, zI b]) (q := 6) dL_firm_3 rfl ck_L_77 rfl rfl rfl (Nat.le_of_ble_eq_true rfl) (by decide) (by decide) ho (fun X T h => ?_) (fun r T h => ?_)
  · obtain ⟨h1, h2⟩ := h
    rw [← h1] at hsh
    have hX : X ∈ [xI, xA] := hsh
    rcases List.mem_cons.mp hX with rfl | hX
    · exact gx_catch [] (0, 7, 10, 14) [(0, 7, 16, 25)] rfl (fun z hz => nomatch hz) (by decide) (by decide) (z_big_of (by decide +kernel) rfl) (by decide +kernel) (gh_astore dL_firm_10 dL_firm_12 dL_firm_15 (by decide) rfl ⟨by decide, by decide⟩ (by decide) (by decide) (z_oke h1 h2 (by decide +kernel)))
    rcases List.mem_cons.mp hX with rfl | hX
    · exact gx_catch [(0, 7, 10, 14)] (0, 7, 16, 25) [] rfl (List.forall_mem_cons.mpr ⟨⟨by decide, xI, z_big_of (by decide +kernel) rfl, by decide +kernel⟩, fun z hz => nomatch hz⟩) (by decide) (by decide) (z_big_of (by decide +kernel) rfl) (by decide +kernel) (gh_astore dL_firm_16 dL_firm_18 dL_firm_21 (by decide) rfl ⟨by decide, by decide⟩ (by decide) (by decide) (z_oke h1 h2 (by decide +kernel)))
    cases hX
  · obtain ⟨h1, h2⟩ := h
    rw [← h1] at hsh
    rcases r with _ | (z | y)
    · exact hsh.elim
    · skip
      refine g_istore_n (i := 3) (q := 7) dL_firm_6 rfl rfl (Nat.le_of_ble_eq_true rfl) ?_
      refine g_goto (q := 0) (t := 22) dL_firm_7 (by decide) ?_
      refine g_iload_n (i := 3) (q := 23) dL_firm_22 rfl rfl rfl ?_
      exact g_ret dL_firm_23 rfl (by decide) (z_okk h1 h2)
    · exact hsh.elim
theorem w_known {S : zS} {a b : Int} {o : zO} (ho : z_Out mX6_known [zR 0, zI a, zI b] S o) (hsh : z_sh [xI] o.1) : z_Wr mL_known [zR 0, zI a, zI b] S o := by
  refine z_enterW (by decide +kernel) (z_n1 trivial (z_n1 trivial (z_n1 trivial z_n0))) (Nat.le_of_ble_eq_true rfl) ?_
  refine g_aload_n (i := 0) (q := 1) dL_known_0 rfl rfl rfl ?_
  refine g_iload_n (i := 1) (q := 2) dL_known_1 rfl rfl rfl ?_
  refine g_iload_n (i := 2) (q := 3) dL_known_2 rfl rfl rfl ?_
  refine g_callV (Q' := fun x T => x = o.1 ∧ T = o.2) (as := [zI a, zI b]) (q := 6) dL_known_3 rfl ck_L_80 rfl rfl rfl (Nat.le_of_ble_eq_true rfl) (by decide) (by decide) ho (fun X T h => ?_) (fun r T h => ?_)
  · obtain ⟨h1, h2⟩ := h
    rw [← h1] at hsh
    have hX : X ∈ [xI] := hsh
    rcases List.mem_cons.mp hX with rfl | hX
    · exact gx_catch [] (0, 7, 10, 14) [] rfl (fun z hz => nomatch hz) (by decide) (by decide) (z_big_of (by decide +kernel) rfl) (by decide +kernel) (gh_astore dL_known_10 dL_known_12 dL_known_15 (by decide) rfl ⟨by decide, by decide⟩ (by decide) (by decide) (z_oke h1 h2 (by decide +kernel)))
    cases hX
  · obtain ⟨h1, h2⟩ := h
    rw [← h1] at hsh
    rcases r with _ | (z | y)
    · exact hsh.elim
    · skip
      refine g_istore_n (i := 3) (q := 7) dL_known_6 rfl rfl (Nat.le_of_ble_eq_true rfl) ?_
      refine g_goto (q := 0) (t := 16) dL_known_7 (by decide) ?_
      refine g_iload_n (i := 3) (q := 17) dL_known_16 rfl rfl rfl ?_
      exact g_ret dL_known_17 rfl (by decide) (z_okk h1 h2)
    · exact hsh.elim
theorem w_audit {S : zS} {a : Int} {o : zO} (ho : z_Out mX6_audit [zR 0, zI a] S o) (hsh : z_sh [xI] o.1) : z_Wr mL_audit [zR 0, zI a] S o := by
  refine z_enterW (by decide +kernel) (z_n1 trivial (z_n1 trivial z_n0)) (Nat.le_of_ble_eq_true rfl) ?_
  refine g_aload_n (i := 0) (q := 1) dL_audit_0 rfl rfl rfl ?_
  refine g_iload_n (i := 1) (q := 2) dL_audit_1 rfl rfl rfl ?_
  refine g_callV (Q' := fun x T => x = o.1 ∧ T = o.2) (as := [zI a]) (q := 5) dL_audit_2 rfl ck_L_83 rfl rfl rfl (Nat.le_of_ble_eq_true rfl) (by decide) (by decide) ho (fun X T h => ?_) (fun r T h => ?_)
  · obtain ⟨h1, h2⟩ := h
    rw [← h1] at hsh
    have hX : X ∈ [xI] := hsh
    rcases List.mem_cons.mp hX with rfl | hX
    · exact gx_catch [] (0, 6, 9, 14) [] rfl (fun z hz => nomatch hz) (by decide) (by decide) (z_big_of (by decide +kernel) rfl) (by decide +kernel) (gh_astore_n (i := 3) dL_audit_9 rfl dL_audit_10 dL_audit_13 (by decide) rfl ⟨by decide, by decide⟩ (by decide) (by decide) (z_oke h1 h2 (by decide +kernel)))
    cases hX
  · obtain ⟨h1, h2⟩ := h
    rw [← h1] at hsh
    rcases r with _ | (z | y)
    · exact hsh.elim
    · skip
      refine g_istore_n (i := 2) (q := 6) dL_audit_5 rfl rfl (Nat.le_of_ble_eq_true rfl) ?_
      refine g_goto (q := 0) (t := 14) dL_audit_6 (by decide) ?_
      refine g_iload_n (i := 2) (q := 15) dL_audit_14 rfl rfl rfl ?_
      exact g_ret dL_audit_15 rfl (by decide) (z_okk h1 h2)
    · exact hsh.elim
theorem w_hop {S : zS} {a b c d : Int} {o : zO} (ho : z_Out mX6_hop [zR 0, zI a, zI b, zI c, zI d] S o) (hsh : z_sh [xI, xA] o.1) : z_Wr mL_hop [zR 0, zI a, zI b, zI c, zI d] S o := by
  refine z_enterW (by decide +kernel) (z_n1 trivial (z_n1 trivial (z_n1 trivial (z_n1 trivial (z_n1 trivial z_n0))))) (Nat.le_of_ble_eq_true rfl) ?_
  refine g_aload_n (i := 0) (q := 1) dL_hop_0 rfl rfl rfl ?_
  refine g_iload_n (i := 1) (q := 2) dL_hop_1 rfl rfl rfl ?_
  refine g_iload_n (i := 2) (q := 3) dL_hop_2 rfl rfl rfl ?_
  refine g_iload_n (i := 3) (q := 4) dL_hop_3 rfl rfl rfl ?_
  refine g_iload (q := 6) dL_hop_4 rfl rfl ?_
  refine g_callV (Q' := fun x T => x = o.1 ∧ T = o.2) (as := [zI a, zI b, zI c, zI d]) (q := 9) dL_hop_6 rfl ck_L_86 rfl rfl rfl (Nat.le_of_ble_eq_true rfl) (by decide) (by decide) ho (fun X T h => ?_) (fun r T h => ?_)
  · obtain ⟨h1, h2⟩ := h
    rw [← h1] at hsh
    have hX : X ∈ [xI, xA] := hsh
    rcases List.mem_cons.mp hX with rfl | hX
    · exact gx_catch [] (0, 11, 14, 14) [(0, 11, 20, 25)] rfl (fun z hz => nomatch hz) (by decide) (by decide) (z_big_of (by decide +kernel) rfl) (by decide +kernel) (gh_astore dL_hop_14 dL_hop_16 dL_hop_19 (by decide) rfl ⟨by decide, by decide⟩ (by decide) (by decide) (z_oke h1 h2 (by decide +kernel)))
    rcases List.mem_cons.mp hX with rfl | hX
    · exact gx_catch [(0, 11, 14, 14)] (0, 11, 20, 25) [] rfl (List.forall_mem_cons.mpr ⟨⟨by decide, xI, z_big_of (by decide +kernel) rfl, by decide +kernel⟩, fun z hz => nomatch hz⟩) (by decide) (by decide) (z_big_of (by decide +kernel) rfl) (by decide +kernel) (gh_astore dL_hop_20 dL_hop_22 dL_hop_25 (by decide) rfl ⟨by decide, by decide⟩ (by decide) (by decide) (z_oke h1 h2 (by decide +kernel)))
    cases hX
  · obtain ⟨h1, h2⟩ := h
    rw [← h1] at hsh
    rcases r with _ | (z | y)
    · exact hsh.elim
    · skip
      refine g_istore (q := 11) dL_hop_9 rfl (Nat.le_of_ble_eq_true rfl) ?_
      refine g_goto (q := 0) (t := 26) dL_hop_11 (by decide) ?_
      refine g_iload (q := 28) dL_hop_26 rfl rfl ?_
      exact g_ret dL_hop_28 rfl (by decide) (z_okk h1 h2)
    · exact hsh.elim
theorem w_why {S : zS} {a b c : Int} {o : zO} (ho : z_Out mX6_why [zR 0, zI a, zI b, zI c] S o) (hsh : z_sh [xI, xA] o.1) : z_Wr mL_why [zR 0, zI a, zI b, zI c] S o := by
  refine z_enterW (by decide +kernel) (z_n1 trivial (z_n1 trivial (z_n1 trivial (z_n1 trivial z_n0)))) (Nat.le_of_ble_eq_true rfl) ?_
  refine g_aload_n (i := 0) (q := 1) dL_why_0 rfl rfl rfl ?_
  refine g_iload_n (i := 1) (q := 2) dL_why_1 rfl rfl rfl ?_
  refine g_iload_n (i := 2) (q := 3) dL_why_2 rfl rfl rfl ?_
  refine g_iload_n (i := 3) (q := 4) dL_why_3 rfl rfl rfl ?_
  refine g_callV (Q' := fun x T => x = o.1 ∧ T = o.2) (as := [zI a, zI b, zI c]) (q := 7) dL_why_4 rfl ck_L_89 rfl rfl rfl (Nat.le_of_ble_eq_true rfl) (by decide) (by decide) ho (fun X T h => ?_) (fun r T h => ?_)
  · obtain ⟨h1, h2⟩ := h
    rw [← h1] at hsh
    have hX : X ∈ [xI, xA] := hsh
    rcases List.mem_cons.mp hX with rfl | hX
    · exact gx_catch [] (0, 9, 12, 14) [(0, 9, 18, 25)] rfl (fun z hz => nomatch hz) (by decide) (by decide) (z_big_of (by decide +kernel) rfl) (by decide +kernel) (gh_astore dL_why_12 dL_why_14 dL_why_17 (by decide) rfl ⟨by decide, by decide⟩ (by decide) (by decide) (z_oke h1 h2 (by decide +kernel)))
    rcases List.mem_cons.mp hX with rfl | hX
    · exact gx_catch [(0, 9, 12, 14)] (0, 9, 18, 25) [] rfl (List.forall_mem_cons.mpr ⟨⟨by decide, xI, z_big_of (by decide +kernel) rfl, by decide +kernel⟩, fun z hz => nomatch hz⟩) (by decide) (by decide) (z_big_of (by decide +kernel) rfl) (by decide +kernel) (gh_astore dL_why_18 dL_why_20 dL_why_23 (by decide) rfl ⟨by decide, by decide⟩ (by decide) (by decide) (z_oke h1 h2 (by decide +kernel)))
    cases hX
  · obtain ⟨h1, h2⟩ := h
    rw [← h1] at hsh
    rcases r with _ | (z | y)
    · exact hsh.elim
    · skip
      refine g_istore (q := 9) dL_why_7 rfl (Nat.le_of_ble_eq_true rfl) ?_
      refine g_goto (q := 0) (t := 24) dL_why_9 (by decide) ?_
      refine g_iload (q := 26) dL_why_24 rfl rfl ?_
      exact g_ret dL_why_26 rfl (by decide) (z_okk h1 h2)
    · exact hsh.elim
theorem w_dial {S : zS} {a b c : Int} {o : zO} (ho : z_Out mX6_dial [zR 0, zI a, zI b, zI c] S o) (hsh : z_sh [xI, xA, xS] o.1) : z_Wr mL_dial [zR 0, zI a, zI b, zI c] S o := by
  refine z_enterW (by decide +kernel) (z_n1 trivial (z_n1 trivial (z_n1 trivial (z_n1 trivial z_n0)))) (Nat.le_of_ble_eq_true rfl) ?_
  refine g_aload_n (i := 0) (q := 1) dL_dial_0 rfl rfl rfl ?_
  refine g_iload_n (i := 1) (q := 2) dL_dial_1 rfl rfl rfl ?_
  refine g_iload_n (i := 2) (q := 3) dL_dial_2 rfl rfl rfl ?_
  refine g_iload_n (i := 3) (q := 4) dL_dial_3 rfl rfl rfl ?_
  refine g_callV (Q' := fun x T => x = o.1 ∧ T = o.2) (as := [zI a, zI b, zI c]) (q := 7) dL_dial_4 rfl ck_L_93 rfl rfl rfl (Nat.le_of_ble_eq_true rfl) (by decide) (by decide) ho (fun X T h => ?_) (fun r T h => ?_)
  · obtain ⟨h1, h2⟩ := h
    rw [← h1] at hsh
    have hX : X ∈ [xI, xA, xS] := hsh
    rcases List.mem_cons.mp hX with rfl | hX
    · exact gx_catch [] (0, 9, 12, 14) [(0, 9, 18, 25), (0, 9, 24, 16)] rfl (fun z hz => nomatch hz) (by decide) (by decide) (z_big_of (by decide +kernel) rfl) (by decide +kernel) (gh_astore dL_dial_12 dL_dial_14 dL_dial_17 (by decide) rfl ⟨by decide, by decide⟩ (by decide) (by decide) (z_oke h1 h2 (by decide +kernel)))
    rcases List.mem_cons.mp hX with rfl | hX
    · exact gx_catch [(0, 9, 12, 14)] (0, 9, 18, 25) [(0, 9, 24, 16)] rfl (List.forall_mem_cons.mpr ⟨⟨by decide, xI, z_big_of (by decide +kernel) rfl, by decide +kernel⟩, fun z hz => nomatch hz⟩) (by decide) (by decide) (z_big_of (by decide +kernel) rfl) (by decide +kernel) (gh_astore dL_dial_18 dL_dial_20 dL_dial_23 (by decide) rfl ⟨by decide, by decide⟩ (by decide) (by decide) (z_oke h1 h2 (by decide +kernel)))
    rcases List.mem_cons.mp hX with rfl | hX
    · exact gx_catch [(0, 9, 12, 14), (0, 9, 18, 25)] (0, 9, 24, 16) [] rfl (List.forall_mem_cons.mpr ⟨⟨by decide, xI, z_big_of (by decide +kernel) rfl, by decide +kernel⟩, List.forall_mem_cons.mpr ⟨⟨by decide, xA, z_big_of (by decide +kernel) rfl, by decide +kernel⟩, fun z hz => nomatch hz⟩⟩) (by decide) (by decide) (z_big_of (by decide +kernel) rfl) (by decide +kernel) (gh_astore dL_dial_24 dL_dial_26 dL_dial_29 (by decide) rfl ⟨by decide, by decide⟩ (by decide) (by decide) (z_oke h1 h2 (by decide +kernel)))
    cases hX
  · obtain ⟨h1, h2⟩ := h
    rw [← h1] at hsh
    rcases r with _ | (z | y)
    · exact hsh.elim
    · skip
      refine g_istore (q := 9) dL_dial_7 rfl (Nat.le_of_ble_eq_true rfl) ?_
      refine g_goto (q := 0) (t := 30) dL_dial_9 (by decide) ?_
      refine g_iload (q := 32) dL_dial_30 rfl rfl ?_
      exact g_ret dL_dial_32 rfl (by decide) (z_okk h1 h2)
    · exact hsh.elim
