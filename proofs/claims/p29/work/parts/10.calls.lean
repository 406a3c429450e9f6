/-! ===== RULES: calls, throws, a method from its entry ===== -/
/-- a method, called by invokevirtual from own by its link ix, its receiver of class ci -/
def z_vk (own : String) (ix ci n : Nat) (M : zM) : Prop := ∃ (T : u_T) (N : Nat), vwCl[ci]? = some ((m_y M).cls, T, N) ∧ (∀ w ∈ ([.methodLink own ix (m_y M), .instanceMethod (m_y M), .selects (m_y M).cls (m_y M) (m_y M), .initialized (m_y M).cls, .code (m_y M) (m_c M) (m_l M) (m_r M)] : List Cond), w ∈ z_big) ∧
  ((m_y M).cls ≠ "java/lang/invoke/MethodHandle" ∧ (m_y M).cls ≠ "java/lang/invoke/VarHandle" ∧ (parseMethodDescriptor (m_y M).desc).map (fun d => d.parameters.length) = some n)
def z_sk (own : String) (ix n : Nat) (M : zM) : Prop := (∀ w ∈ ([.methodLink own ix (m_y M), .static (m_y M), .initialized (m_y M).cls, .code (m_y M) (m_c M) (m_l M) (m_r M)] : List Cond), w ∈ z_big) ∧
  ((m_y M).cls ≠ "java/lang/invoke/MethodHandle" ∧ (m_y M).cls ≠ "java/lang/invoke/VarHandle" ∧ (parseMethodDescriptor (m_y M).desc).map (fun d => d.parameters.length) = some n)
theorem z_Pc_blind {E : zE} {args : List zV} {S : zS} : FrameBlind (z_Pc E args S) := by
  intro a U g mk h
  obtain ⟨h1, h2, h3, h4⟩ := h
  exact ⟨h1, z_wd.moved (u := U) (U := U.calling g mk a) (Vm.Alike.refl U.vm) h2, z_sw.warm (s := U) (U := U.calling g mk a) (State.WarmedH.refl U) h3, h4⟩
theorem z_Pc_of {E : zE} {args : List zV} {S : zS} {s : State} {H : Heap} (hW : z_wd E S s H) (hs : z_sw s) (hok : ∀ v ∈ args, z_ok v) : ∀ U : State, U.heap = H → s.WarmedH U.vm → z_Pc E args S (args.map (z_tv (e_ad E))).toArray U := by
  intro U hU hw
  refine ⟨rfl, ?_, hs.warm hw, hok⟩
  rw [hU]
  exact hW.moved hw.alike
section
variable {p : Program} {l : Launch} {e : Env} {R : Room} {s : State} {m : MethodId} {args : Array Value} {below : List Frame} {meth : Method} {c : Code} {H : Heap} {locs : List Loc} {cells slots : Nat} {Q : State → Prop}
/-- what a call gives, for its caller -/
theorem z_run {mc ms pc : Nat} {E : zE} {ls : Array Slot} {st0 rest : List Value} {a : Array Value} {Q' : zQ} (hr : vx_Run p l e R s m args below meth c H locs cells slots mc ms (F0 m pc ls st0) rest (z_Qc E Q' a) (z_XC E Q') (z_A E)) (hS : va_S (z_A E) s.heap H locs)
    (kx : ∀ (X : String) (ce : Cell) (q9 : Addr) (S' : zS) (H1 : Heap) (locs1 : List Loc), Q' (.error X) S' → z_wd E S' s H1 → va_S (z_A E) s.heap H1 locs1 → H1[q9]? = some ce → ce.vm = .none → s.vm.findClass X = some ce.cls → vx_W p l e R s m args below meth c H1 locs1 (cells + mc) (slots + ms) Q (F0 m pc ls rest) q9)
    (kk : ∀ (r : Option zV) (S' : zS) (H1 : Heap) (locs1 : List Loc), Q' (.ok r) S' → (∀ v, r = some v → z_ok v) → z_wd E S' s H1 → va_S (z_A E) s.heap H1 locs1 → W p l e R s m args below meth c H1 locs1 (cells + mc) (slots + ms) Q (F0 m (pc + 3) ls ((r.map (z_tv (e_ad E))).toList ++ rest))) : W p l e R s m args below meth c H locs cells slots Q (F0 m pc ls st0) := by
  intro T hT X
  rcases hr T hT X with ⟨v, st₀, t, T', L, h0, X', hL, e1, e2, ⟨⟨r, S', hv, hq, hrok, hw⟩, hF⟩, stp⟩ | ⟨q, st₀, t, T', L, Ex, ce, h0, X', hL, e1, e2, ⟨S', hq, hw, hF⟩, hce, hcv, hcl, stp⟩
  · cases hv
    obtain ⟨k1, k2, k3⟩ := vx_keep h0 e1 hS (fun q _ h => h) (fun q h => h) hL hF
    have hw1 : z_wd E S' s T'.heap := by
      rw [e1]
      exact hw.moved (by rw [← e2]; exact X'.warmed.alike.symm)
    obtain ⟨t2, a1, b1⟩ := kk r S' T'.heap (locs ++ L) hq hrok hw1 k3 T' rfl X'
    exact ⟨t2, stp t2 a1, b1⟩
  · obtain ⟨k1, k2, k3⟩ := vx_keep h0 e1 hS (fun q _ h => h) (fun q h => h) hL hF
    have hw1 : z_wd E S' s T'.heap := by
      rw [e1]
      exact hw.moved (by rw [← e2]; exact X'.warmed.alike.symm)
    obtain ⟨t2, a1, b1⟩ := kx Ex ce q S' T'.heap (locs ++ L) hq hw1 k3 (by rw [e1]; exact hce) hcv hcl T' rfl X'
    exact ⟨t2, stp.trans a1, b1⟩
end
/-- thrown in a method's body at pc -/
def z_GX (M : zM) (F : zF) (u pc : Nat) (al : List (Option zV)) (X : String) (S : zS) : Prop :=
  ∀ (E : zE) (p : Program) (l : Launch) (e : Env) (R : Room) (s : State) (m : MethodId) (args : Array Value) (below : List Frame) (meth : Method) (c : Code), z_Cx E M F p l R s m args meth c →
    ∀ (H : Heap) (locs : List Loc) (ls : Array Slot) (rest : List Value) (ce : Cell) (q9 : Addr), z_wd E S s H → va_S (z_A E) s.heap H locs → z_lok (e_ad E) (m_l M) (m_w M) al ls → H[q9]? = some ce → ce.vm = .none → s.vm.findClass X = some ce.cls →
      vx_W p l e R s m args below meth c H locs (F.2.1 + u) (F.2.2 + 6 * u) (F.1 E below args s) (F0 m pc ls rest) q9
/-- out of a method without handlers -/
theorem gx_out {M : zM} {u pc : Nat} {al : List (Option zV)} {X : String} {S : zS} {Q : zQ} (hh : m_h M = []) (hu : u ≤ m_u M) (hQ : Q (.error X) S) : z_GX M (z_F M Q) u pc al X S := by
  intro E p l e R s m args below meth c C H locs ls rest ce q9 hW hS hL hce hcv hcl
  have htab : ∀ x ∈ c.exceptionTable.toList, covers x pc = false := by
    have h1 := C.2.2.2.2.2.2.2.1
    unfold z_tab at h1
    rw [hh] at h1
    intro x hx
    rw [List.map_eq_nil_iff.mp h1] at hx
    cases hx
  refine vx_out htab C.2.2.2.2.2.2.1 hce hcv hcl (fun t ht hv => ⟨S, hQ, by rw [ht]; exact hW.moved hv, by rw [va_F, ht]; exact ⟨hS.1, hS.2.1⟩⟩) hS.2.2 (by show 0 + u ≤ _; omega) (by show 0 + 6 * u ≤ _; omega)
def z_ca (st : List zV) : Prop := st.length ≤ 4
theorem z_ca_sum {ad : Nat → Nat} {st : List zV} (h : st.length ≤ 4) : ((st.map (z_tv ad)).map fun v => v.category).sum ≤ 8 := by
  have h1 : ∀ st : List zV, ((st.map (z_tv ad)).map fun v => v.category).sum ≤ 2 * st.length := by
    intro st
    induction st with
    | nil => exact Nat.le_refl _
    | cons v st ih =>
      have h2 : (z_tv ad v).category ≤ 2 := by rcases v with z | k | z <;> simp [z_tv, Value.category]
      simp only [List.map_cons, List.sum_cons, List.length_cons]
      omega
  have := h1 st
  omega
section
variable {M M' : zM} {F : zF} {u pc q ix : Nat} {al : List (Option zV)} {st : List zV} {S : zS}
theorem g_callV {Q' : zQ} {o ci n : Nat} {fl : List (Nat ⊕ Nat)} {as st0 : List zV} (hd : decode (m_c M) pc = .ok (.invokevirtual ix, 3)) (hq : pc + 3 = q) (hm : z_vk (m_y M).cls ix ci n M') (ho : z_obj o = some (ci, fl)) (hn : as.length = n) (hs0 : st0 = as.reverse ++ zR o :: st) (hst4 : st.length ≤ 4)
    (hR : m_F M' + 1 ≤ m_F M ∧ 8 + (m_l M' + 11) + m_L M' ≤ m_L M) (hu : u + m_u M' ≤ m_u M) (sp : z_Sp M' (zR o :: as) S Q') (kx : ∀ X S', Q' (.error X) S' → z_GX M F (u + m_u M') pc al X S') (k : ∀ r S', Q' (.ok r) S' → z_G M F (u + m_u M') q al (r.toList ++ st) S') : z_G M F u pc al st0 S := by
  intro E p l e R s m args below meth c C H locs ls hW hS hL hst
  subst hq
  subst hs0
  obtain ⟨hx, hb, hml, hret, hown, hts, hlocks, htab, ⟨hRF, hRL, hRc, hRs⟩, hflag, hbase, hsw, hst9⟩ := id C
  obtain ⟨T, N, hcl, hws, hd1, hd2, hd3⟩ := hm
  have he : (z_w E S)[o]? = some (e_ad E o, .inr (ci, fl.map (z_fv (e_ad E) S))) := by rw [z_wl_get (z_obj_lt ho), z_cell_obj ho]
  have hG : GoodIn z_big (wsV (m_y M).cls ix (m_y M').cls (m_y M') (.code (m_y M') (m_c M') (m_l M') (m_r M') :: z_big)) := z_goodIn (fun w hw => by
    simp only [wsV, List.cons_append, List.nil_append, List.mem_cons] at hw
    rcases hw with rfl | rfl | rfl | rfl | rfl | hw
    · exact hws _ (by simp)
    · exact hws _ (by simp)
    · exact hws _ (by simp)
    · exact hws _ (by simp)
    · exact hws _ (by simp)
    · exact hw)
  refine z_run (Q' := Q') (vx_runV (As := as.map (z_tv (e_ad E))) (rest := st.map (z_tv (e_ad E))) (b := e_ad E o) ⟨hx, hb, hml, hown, hts⟩ (sp l E hflag) (cwV n hts hG rfl rfl rfl ⟨rfl, hd1, hd2, hd3⟩ (by rw [hRF, hRL]; exact hR)) ⟨z_Pc_blind, va_recv hW.2.1 hW.1 hcl he, z_Pc_of hW hsw (fun v hv => by
    rcases List.mem_cons.mp hv with rfl | hv
    · trivial
    · exact hst v (List.mem_append_left _ (List.mem_reverse.mpr hv)))⟩ rfl (by rw [List.length_map]; exact hn) (hL.1) (by show List.map _ _ = _; simp [List.map_append, List.map_reverse, z_tv]) (lv_room (z_ca_sum hst4)) hd ⟨by omega, by omega⟩) hS (fun X ce q9 S' H1 locs1 hq hw1 hs1 hce hcv hcl => ?_) (fun r S' H1 locs1 hq hrok hw1 hs1 => ?_)
  · have h := kx X S' hq E p l e R s m args below meth c C H1 locs1 ls (st.map (z_tv (e_ad E))) ce q9 hw1 hs1 hL hce hcv hcl
    rw [show F.2.1 + u + m_u M' = F.2.1 + (u + m_u M') by omega, show F.2.2 + 6 * u + 6 * m_u M' = F.2.2 + 6 * (u + m_u M') by omega]
    exact h
  · have h := k r S' hq E p l e R s m args below meth c C H1 locs1 ls hw1 hs1 hL (by
      intro v hv
      rcases List.mem_append.mp hv with hv | hv
      · exact hrok v (by cases r with
          | none => cases hv
          | some x =>
            rcases List.mem_singleton.mp hv with rfl
            rfl)
      · exact hst v (List.mem_append_right _ (List.mem_cons_of_mem _ hv)))
    rw [show F.2.1 + u + m_u M' = F.2.1 + (u + m_u M') by omega, show F.2.2 + 6 * u + 6 * m_u M' = F.2.2 + 6 * (u + m_u M') by omega]
    rw [List.map_append] at h
    rw [show (r.map (z_tv (e_ad E))).toList = r.toList.map (z_tv (e_ad E)) by cases r <;> rfl]
    exact h
theorem g_callS {Q' : zQ} {n : Nat} {as st0 : List zV} (hd : decode (m_c M) pc = .ok (.invokestatic ix, 3)) (hq : pc + 3 = q) (hm : z_sk (m_y M).cls ix n M') (hn : as.length = n) (hs0 : st0 = as.reverse ++ st) (hst4 : st.length ≤ 4)
    (hR : m_F M' + 1 ≤ m_F M ∧ 8 + (m_l M' + 11) + m_L M' ≤ m_L M) (hu : u + m_u M' ≤ m_u M) (sp : z_Sp M' as S Q') (kx : ∀ X S', Q' (.error X) S' → z_GX M F (u + m_u M') pc al X S') (k : ∀ r S', Q' (.ok r) S' → z_G M F (u + m_u M') q al (r.toList ++ st) S') : z_G M F u pc al st0 S := by
  intro E p l e R s m args below meth c C H locs ls hW hS hL hst
  subst hq
  subst hs0
  obtain ⟨hx, hb, hml, hret, hown, hts, hlocks, htab, ⟨hRF, hRL, hRc, hRs⟩, hflag, hbase, hsw, hst9⟩ := id C
  obtain ⟨hws, hd1, hd2, hd3⟩ := hm
  have hG : GoodIn z_big (va_wsS (m_y M).cls ix (m_y M') (.code (m_y M') (m_c M') (m_l M') (m_r M') :: z_big)) := z_goodIn (fun w hw => by
    simp only [va_wsS, List.cons_append, List.nil_append, List.mem_cons] at hw
    rcases hw with rfl | rfl | rfl | rfl | hw
    · exact hws _ (by simp)
    · exact hws _ (by simp)
    · exact hws _ (by simp)
    · exact hws _ (by simp)
    · exact hw)
  refine z_run (Q' := Q') (vx_runS (As := as.map (z_tv (e_ad E))) (rest := st.map (z_tv (e_ad E))) ⟨hx, hb, hml, hown, hts⟩ (sp l E hflag) (va_cwS n hts hG rfl rfl rfl ⟨hd1, hd2, hd3⟩ (by rw [hRF, hRL]; exact hR)) ⟨z_Pc_blind, z_Pc_of hW hsw (fun v hv => hst v (List.mem_append_left _ (List.mem_reverse.mpr hv)))⟩ rfl (by rw [List.length_map]; exact hn) (hL.1) (by show List.map _ _ = _; simp [List.map_append, List.map_reverse]) (lv_room (z_ca_sum hst4)) hd ⟨by omega, by omega⟩) hS (fun X ce q9 S' H1 locs1 hq hw1 hs1 hce hcv hcl => ?_) (fun r S' H1 locs1 hq hrok hw1 hs1 => ?_)
  · have h := kx X S' hq E p l e R s m args below meth c C H1 locs1 ls (st.map (z_tv (e_ad E))) ce q9 hw1 hs1 hL hce hcv hcl
    rw [show F.2.1 + u + m_u M' = F.2.1 + (u + m_u M') by omega, show F.2.2 + 6 * u + 6 * m_u M' = F.2.2 + 6 * (u + m_u M') by omega]
    exact h
  · have h := k r S' hq E p l e R s m args below meth c C H1 locs1 ls hw1 hs1 hL (by
      intro v hv
      rcases List.mem_append.mp hv with hv | hv
      · exact hrok v (by cases r with
          | none => cases hv
          | some x =>
            rcases List.mem_singleton.mp hv with rfl
            rfl)
      · exact hst v (List.mem_append_right _ hv))
    rw [show F.2.1 + u + m_u M' = F.2.1 + (u + m_u M') by omega, show F.2.2 + 6 * u + 6 * m_u M' = F.2.2 + 6 * (u + m_u M') by omega]
    rw [List.map_append] at h
    rw [show (r.map (z_tv (e_ad E))).toList = r.toList.map (z_tv (e_ad E)) by cases r <;> rfl]
    exact h
end

/-- a method without handlers, from its entry -/
theorem z_args_mem {ad : Nat → Nat} : ∀ (as : List zV) (i0 : Nat), (∀ v ∈ as, z_nl v) → ∀ (i : Nat) (v : zV), as[i]? = some v → (i0 + i, z_tv ad v) ∈ lv_args i0 (as.map (z_tv ad)) := by
  intro as
  induction as with
  | nil => intro i0 _ i v h; simp at h
  | cons a as ih =>
    intro i0 hn i v h
    have hc : ¬ (z_tv ad a).category = 2 := by rw [z_cat (hn a List.mem_cons_self)]; decide
    simp only [List.map_cons, lv_args, if_neg hc]
    cases i with
    | zero =>
      simp at h
      subst h
      exact List.mem_cons_self
    | succ i =>
      rw [List.getElem?_cons_succ] at h
      have h1 := ih (i0 + 1) (fun v hv => hn v (List.mem_cons_of_mem _ hv)) i v h
      rw [show i0 + 1 + i = i0 + (i + 1) by omega] at h1
      exact List.mem_cons_of_mem _ h1
theorem z_lg_len {ad : Nat → Nat} : ∀ (as : List zV), (∀ v ∈ as, z_nl v) → (lg_sl (as.map (z_tv ad))).length = as.length := by
  intro as
  induction as with
  | nil => intro _; rfl
  | cons a as ih =>
    intro hn
    have hc : ¬ (z_tv ad a).category = 2 := by rw [z_cat (hn a List.mem_cons_self)]; decide
    have h1 := ih (fun v hv => hn v (List.mem_cons_of_mem _ hv))
    unfold lg_sl at h1 ⊢
    rw [List.map_cons, List.flatMap_cons, if_neg hc, List.length_append, h1]
    simp [Nat.add_comm]
theorem z_lok_entry {ad : Nat → Nat} {as : List zV} {n : Nat} {w : List Nat} (hn : ∀ v ∈ as, z_nl v) (hok : ∀ v ∈ as, z_ok v) (hl : as.length ≤ n) : z_lok ad n w (as.map some ++ List.replicate (n - as.length) none) ((lg_sl (as.map (z_tv ad)) ++ List.replicate (n - (lg_sl (as.map (z_tv ad))).length) Slot.unset).toArray) := by
  have h := lv_entry (as.map (z_tv ad)) (n := n) (by rw [z_lg_len as hn]; exact hl)
  refine ⟨h.1, h.2.1, by simp; omega, fun i v hi => ?_⟩
  have hi2 : as[i]? = some v := by
    by_cases hlt : i < as.length
    · rw [List.getElem?_append_left (by rw [List.length_map]; exact hlt), List.getElem?_map] at hi
      cases hx : as[i]? with
      | none => rw [hx] at hi; cases hi
      | some w => rw [hx] at hi; cases hi; rfl
    · rw [List.getElem?_append_right (by rw [List.length_map]; omega)] at hi
      have := List.mem_of_getElem? hi
      have := List.eq_of_mem_replicate this
      cases this
  have hm := List.mem_of_getElem? hi2
  have h1 := h.2.2 _ (z_args_mem (ad := ad) as 0 hn i v hi2)
  rw [Nat.zero_add] at h1
  exact ⟨h1, .inl (hn v hm), hok v hm⟩
theorem z_enter {M : zM} {as : List zV} {S : zS} {Q : zQ} (hy : plainName (m_y M).cls = true) (hh : m_h M = []) (hn : ∀ v ∈ as, z_nl v) (hl : as.length ≤ m_l M)
    (k : z_G M (z_F M Q) 0 0 (as.map some ++ List.replicate (m_l M - as.length) none) [] S) : z_Sp M as S Q := by
  intro l E hflag
  refine vx_ofW (cc := m_c M) (maxL := m_l M) (ret := m_r M) hy rfl ?_
  intro p e s m args below meth c s₁ B hml htab hv
  obtain ⟨rfl, hW, hsw, hok⟩ := hv
  have hts0 := atoms_spec (ws := Cond.code (m_y M) (m_c M) (m_l M) (m_r M) :: z_big) B.pre
  have hts : ∀ w ∈ z_big, w.before ((as.map (z_tv (e_ad E))).toArray) s = true := fun w hw => hts0 w (List.mem_cons_of_mem _ hw)
  have hown : s.vm.findClass (m_y M).cls = some m.cls := findClass_of_methodNamed B.named
  have htab2 : z_tab M c := by
    unfold z_tab
    rw [hh]
    cases hx : c.exceptionTable.toList with
    | nil => rfl
    | cons a t => exact (htab a (by rw [hx]; exact List.mem_cons_self)).elim
  rw [lg_entry_eq]
  exact k E p l e (z_rm M) s m _ below meth c ⟨B.exec, B.bytes, hml, B.returns, hown, hts, B.notSynchronized, htab2, ⟨rfl, rfl, by show 0 + _ ≤ _; exact Nat.le_of_eq (Nat.zero_add _), by show 0 + _ ≤ _; exact Nat.le_of_eq (Nat.zero_add _)⟩, hflag, hW.2.2.2.2.1.1, hsw, hW.2.2.2.1⟩ s.heap [] _ hW va_S.rf (z_lok_entry hn hok hl) (fun v hv => nomatch hv)
theorem z_Sp.mono {M : zM} {as : List zV} {S : zS} {Q Q' : zQ} (h : z_Sp M as S Q) (hi : ∀ r S', Q r S' → Q' r S') : z_Sp M as S Q' := by
  intro l E hflag p e ha hc hk s m args below hf happ hP hK
  obtain ⟨k, o, h1, h2, h3, hq⟩ := h l E hflag p e ha hc hk s m args below hf happ hP hK
  refine ⟨k, o, h1, h2, h3, ?_⟩
  rcases hq with ⟨⟨⟨r, S', e1, e2, e3⟩, hF⟩, hL⟩ | ⟨q, e1, X, ce, L, ⟨S', e2, e3⟩, e4⟩
  · exact Or.inl ⟨⟨⟨r, S', e1, hi _ _ e2, e3⟩, hF⟩, hL⟩
  · exact Or.inr ⟨q, e1, X, ce, L, ⟨S', hi _ _ e2, e3⟩, e4⟩
/-- it ends with r, in S' -/
def z_Fn (M : zM) (as : List zV) (S : zS) (r : Option zV) (S' : zS) : Prop := z_Sp M as S (fun x T => x = .ok r ∧ T = S')
/-- it throws X, in S' -/
def z_Ex (M : zM) (as : List zV) (S : zS) (X : String) (S' : zS) : Prop := z_Sp M as S (fun x T => x = .error X ∧ T = S')
theorem z_wd.grow {E : zE} {S : zS} {s t : State} {H : Heap} (h : z_wd E S s H) (hv : s.vm.Alike t.vm) (h1 : H.size ≤ t.heap.size) (h2 : ∀ q : Nat, q < H.size → t.heap[q]? = H[q]?) : z_wd E S t t.heap := by
  obtain ⟨g1, g2, g3, g4, g5, g6⟩ := h.moved hv
  exact ⟨g1.kept (fun k q hk => h2 q.1 ((g1 k q hk).lt)), g2, g3, g4.kept g5.1 g5.2.1 (fun a ha _ => h2 a ha), ⟨Nat.le_trans g5.1 h1, g5.2⟩, g6⟩
def z_xw (X : String) : List Cond := [.castable X X, .declares (Bundle.initS "java/lang/RuntimeException"), .declares (Bundle.initS "java/lang/Exception"), .declares (Bundle.initS Bundle.tN)]
/-- what 'new X(text)' of Portinghall rests on -/
def z_tk (ix ic : Nat) (X : String) : Prop := Bundle.fit X = true ∧ Cond.classLink RX6 ix X ∈ z_big ∧ Cond.initialized X ∈ z_big ∧ (∀ w ∈ (vx_atS RX6 ic X xR).filter goodWord, w ∈ z_big) ∧ (∀ w ∈ (vx_atS RX6 ic X xR).filter (fun w => !goodWord w), w ∈ z_xw X) ∧
  (∀ w ∈ Cond.classLink RX6 ix X :: Cond.initialized X :: vx_atS RX6 ic X xR, vx_ot w = true) ∧ X ∈ [xI, xA, xS]
theorem z_xw_of {X : String} {s : State} {args : Array Value} (hs : z_sw s) (hX : X ∈ [xI, xA, xS]) : ∀ w ∈ z_xw X, w.before args s = true := by
  obtain ⟨-, h2, h3, -, -⟩ := hs
  refine vx_c ((h2 X hX).use rfl) (vx_c ((h3 _ (by simp)).use rfl) (vx_c ((h3 _ (by simp)).use rfl) (vx_c ((h3 _ (by simp)).use rfl) vx_n)))
theorem z_xR_fit : ∀ n ∈ xR, Bundle.fit n = true := by decide +kernel
section
variable {M : zM} {u pc : Nat} {al : List (Option zV)} {S : zS} {Q : zQ} {ix is ic : Nat} {X text : String}
theorem g_throw (hc : (m_y M).cls = RX6) (hh : m_h M = []) (ht : z_tk ix ic X) (hs : (is, text) ∈ z_strs)
    (d0 : decode (m_c M) pc = .ok (.new ix, 3)) (d3 : decode (m_c M) (pc + 3) = .ok (.dup, 1)) (d4 : decode (m_c M) (pc + 4) = .ok (.ldc is, 2)) (d6 : decode (m_c M) (pc + 6) = .ok (.invokespecial ic, 3)) (d9 : decode (m_c M) (pc + 9) = .ok (.athrow, 1))
    (hF : 6 ≤ m_F M) (hL9 : 82 ≤ m_L M) (hu : u + 1 ≤ m_u M) (hQ : Q (.error X) S) : z_G M (z_F M Q) u pc al [] S := by
  intro E p l e R s m args below meth c C H locs ls hW hS hL hst
  obtain ⟨hx, hb, hml, hret, hown, hts, hlocks, htab, ⟨hRF, hRL, hRc, hRs⟩, hflag, hbase, hsw, hst9⟩ := id C
  rw [hc] at hown
  obtain ⟨t1, t2, t3, t4, t5, t6, t7⟩ := ht
  obtain ⟨sa, hsa⟩ := hsw.1 _ hs
  have hout : ∀ x ∈ c.exceptionTable.toList, covers x (pc + 9) = false := by
    unfold z_tab at htab
    rw [hh] at htab
    intro x hx
    rw [List.map_eq_nil_iff.mp htab] at hx
    cases hx
  have hRc2 : 0 + m_u M ≤ R.cells := hRc
  have hRs2 : 0 + 6 * m_u M ≤ R.slots := hRs
  exact vx_throwS hx hb hflag (own := RX6) (cls := X) (text := text) (names := xR) (ik := ix) (is := is) (ic := ic) (sa := sa) (A := z_A E) hown t1 z_xR_fit (hts _ t2) (hts _ t3) hsa (vx_hat (fun w hw => hts w (t4 w hw)) t5 (z_xw_of hsw t7)) t6 hst9.1 hst9.2.1 hS (hL.1.trans hml.symm) d0 d3 d4 d6 d9 hout
    (by rw [hRF]; show 2 + 3 < _; omega) (by rw [hRL]; show 0 + (13 * (2 + 1) + 43) ≤ _; omega) (by show 0 + u + 1 ≤ _; omega) (by show 0 + 6 * u + 6 ≤ _; omega) hlocks
    (fun t hv h1 h2 => ⟨S, hQ, hW.grow hv h1 h2, ⟨Nat.le_trans hS.1 h1, fun q hq hA => (h2 q (Nat.lt_of_lt_of_le hq hS.1)).trans (hS.2.1 q hq hA)⟩⟩) hS.2.2 (by show 0 + u + 1 ≤ _; omega) (by show 0 + 6 * u + 6 ≤ _; omega)
theorem g_throwW (hc : (m_y M).cls = RX6) (hh : m_h M = []) (ht : z_tk ix ic X) (hs : (is, text) ∈ z_strs)
    (d0 : decode (m_c M) pc = .ok (.new ix, 3)) (d3 : decode (m_c M) (pc + 3) = .ok (.dup, 1)) (d4 : decode (m_c M) (pc + 4) = .ok (.ldc_w is, 3)) (d6 : decode (m_c M) (pc + 7) = .ok (.invokespecial ic, 3)) (d9 : decode (m_c M) (pc + 10) = .ok (.athrow, 1))
    (hF : 6 ≤ m_F M) (hL9 : 82 ≤ m_L M) (hu : u + 1 ≤ m_u M) (hQ : Q (.error X) S) : z_G M (z_F M Q) u pc al [] S := by
  intro E p l e R s m args below meth c C H locs ls hW hS hL hst
  obtain ⟨hx, hb, hml, hret, hown, hts, hlocks, htab, ⟨hRF, hRL, hRc, hRs⟩, hflag, hbase, hsw, hst9⟩ := id C
  rw [hc] at hown
  obtain ⟨t1, t2, t3, t4, t5, t6, t7⟩ := ht
  obtain ⟨sa, hsa⟩ := hsw.1 _ hs
  have hout : ∀ x ∈ c.exceptionTable.toList, covers x (pc + 10) = false := by
    unfold z_tab at htab
    rw [hh] at htab
    intro x hx
    rw [List.map_eq_nil_iff.mp htab] at hx
    cases hx
  have hRc2 : 0 + m_u M ≤ R.cells := hRc
  have hRs2 : 0 + 6 * m_u M ≤ R.slots := hRs
  exact vx_throwSW hx hb hflag (own := RX6) (cls := X) (text := text) (names := xR) (ik := ix) (is := is) (ic := ic) (sa := sa) (A := z_A E) hown t1 z_xR_fit (hts _ t2) (hts _ t3) hsa (vx_hat (fun w hw => hts w (t4 w hw)) t5 (z_xw_of hsw t7)) t6 hst9.1 hst9.2.1 hS (hL.1.trans hml.symm) d0 d3 d4 d6 d9 hout
    (by rw [hRF]; show 2 + 3 < _; omega) (by rw [hRL]; show 0 + (13 * (2 + 1) + 43) ≤ _; omega) (by show 0 + u + 1 ≤ _; omega) (by show 0 + 6 * u + 6 ≤ _; omega) hlocks
    (fun t hv h1 h2 => ⟨S, hQ, hW.grow hv h1 h2, ⟨Nat.le_trans hS.1 h1, fun q hq hA => (h2 q (Nat.lt_of_lt_of_le hq hS.1)).trans (hS.2.1 q hq hA)⟩⟩) hS.2.2 (by show 0 + u + 1 ≤ _; omega) (by show 0 + 6 * u + 6 ≤ _; omega)
end
theorem z_tk_I : z_tk 72 76 xI := ⟨by decide +kernel, z_big_of (by decide +kernel) rfl, z_big_of (by decide +kernel) rfl, by decide +kernel, by decide +kernel, by decide +kernel, by decide⟩
theorem z_tk_S : z_tk 83 87 xS := ⟨by decide +kernel, z_big_of (by decide +kernel) rfl, z_big_of (by decide +kernel) rfl, by decide +kernel, by decide +kernel, by decide +kernel, by decide⟩
theorem z_tk_A : z_tk 153 157 xA := ⟨by decide +kernel, z_big_of (by decide +kernel) rfl, z_big_of (by decide +kernel) rfl, by decide +kernel, by decide +kernel, by decide +kernel, by decide⟩
