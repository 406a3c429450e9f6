/-! ===== what is made: ends and calls ===== -/
section
variable {E : zE} {M M' : zM} {Q : State → Prop} {p : Program} {l : Launch} {e : Env} {R : Room} {s : State} {m : MethodId} {args : Array Value} {below : List Frame} {meth : Method} {c : Code} {cells slots pc q : Nat} {al : List (Nat × Value)} {st : List Value} {ws : va_W}
theorem n_ret (C : n_Cx E M p R s m args meth c) {post : va_W → Prop} {mc ms : Nat} (hd : decode (m_c M) pc = .ok (.return_, 1)) (hr : m_r M = none) (hc : cells ≤ mc) (hs : slots ≤ ms) (hpost : post ws) : n_G E M (MQ below (n_Qc E post) args s mc ms (z_A E)) p l e R s m args below meth c cells slots pc al [] ws := by
  intro H locs ls hW hL
  obtain ⟨hx, hb, hml, hret, hown, hts, hlocks, hname, hR, hbase, hsw, hK⟩ := id C
  refine W.widen (k := mc) (n := ms) hc hs ?_
  exact W.vret hx hb (hret.trans hr) (fun t ht hw => ⟨⟨ws, rfl, hpost, by rw [ht]; exact hW.1, hW.2.1⟩, hW.2.2.F ht⟩) hW.2.2.2.2 hd hlocks
/-- a call that makes -/
theorem n_run (C : n_Cx E M p R s m args meth c) {as : List Value} {rest : List Value} {st0 : List Value} {post : va_W → Prop} {mc ms : Nat} {a : Array Value}
    (hr : ∀ (H : Heap) (locs : List Loc) (ls : Array Slot), n_Wd E ws s H locs → lv_has ls (m_l M) al → va_Run p l e R s m args below meth c H locs cells slots mc ms (F0 m pc ls st0) rest (n_Qc E post a) (z_A E))
    (k : ∀ ws', post ws' → n_G E M Q p l e R s m args below meth c (cells + mc) (slots + ms) (pc + 3) al rest ws') : n_G E M Q p l e R s m args below meth c cells slots pc al st0 ws := by
  intro H locs ls hW hL
  exact va_callv (hr H locs ls hW hL) hW.2.2 (fun q _ h => h) (fun q h => h) (fun ws' t H1 locs1 ht hvm hp hB hz hk1 hS => by
    obtain ⟨hP1, hD1⟩ := hB
    rw [ht] at hP1
    exact k ws' hp H1 locs1 ls ⟨hP1, hD1, hS⟩ hL)
theorem n_callS (C : n_Cx E M p R s m args meth c) {ix n mc ms : Nat} {as st0 : List Value} {post : va_W → Prop} (hd : decode (m_c M) pc = .ok (.invokestatic ix, 3)) (hq : pc + 3 = q) (hm : z_sk (m_y M).cls ix n M') (hn : as.length = n) (hs0 : st0 = as.reverse ++ st) (hst : ((st.map fun v => v.category).sum) ≤ 8) (hR : m_F M' + 1 ≤ m_F M ∧ 8 + (m_l M' + 11) + m_L M' ≤ m_L M) (hc : cells + mc ≤ R.cells) (hs : slots + ms ≤ R.slots) (sp : n_Sp E M' as ws post mc ms)
    (k : ∀ ws', post ws' → n_G E M Q p l e R s m args below meth c (cells + mc) (slots + ms) q al st ws') : n_G E M Q p l e R s m args below meth c cells slots pc al st0 ws := by
  subst hq
  subst hs0
  obtain ⟨hx, hb, hml, hret, hown, hts, hlocks, hname, ⟨hRF, hRL⟩, hbase, hsw, hK⟩ := id C
  obtain ⟨hws, hd1, hd2, hd3⟩ := hm
  have hG : GoodIn z_big (va_wsS (m_y M).cls ix (m_y M') (.code (m_y M') (m_c M') (m_l M') (m_r M') :: z_big)) := z_goodIn (fun w hw => by
    simp only [va_wsS, List.cons_append, List.nil_append, List.mem_cons] at hw
    rcases hw with rfl | rfl | rfl | rfl | hw
    · exact hws _ (by simp)
    · exact hws _ (by simp)
    · exact hws _ (by simp)
    · exact hws _ (by simp)
    · exact hw)
  exact n_run C (as := as) (rest := st) (fun H locs ls hW hL => va_runS (As := as) (rest := st) ⟨hx, hb, hml, hown, hts⟩ (sp l) (va_cwS n hts hG rfl rfl rfl ⟨hd1, hd2, hd3⟩ (by rw [hRF, hRL]; exact hR)) ⟨n_Pc_blind, n_Pc_of hbase hsw hK hW⟩ rfl hn hL.1 rfl (lv_room hst) hd ⟨hc, hs⟩) k
/-- own's link ix is to the constructor M' -/
def n_ik (own : String) (ix : Nat) (M' : zM) : Prop := (∀ w ∈ ([.methodLink own ix (m_y M'), .instanceMethod (m_y M'), .initialized (m_y M').cls, .code (m_y M') (m_c M') (m_l M') (m_r M')] : List Cond), w ∈ z_big) ∧ m_r M' = none ∧ (m_y M').name = "<init>" ∧
  ((m_y M').cls ≠ "java/lang/invoke/MethodHandle" ∧ (m_y M').cls ≠ "java/lang/invoke/VarHandle" ∧ (parseMethodDescriptor (m_y M').desc).map (fun d => d.parameters.length) = some 0)
theorem n_callI (C : n_Cx E M p R s m args meth c) {ix a mc ms : Nat} {post : va_W → Prop} (hd : decode (m_c M) pc = .ok (.invokespecial ix, 3)) (hq : pc + 3 = q) (hm : n_ik (m_y M).cls ix M') (hst : ((st.map fun v => v.category).sum) ≤ 8) (hR : m_F M' + 1 ≤ m_F M ∧ 8 + (m_l M' + 11) + m_L M' ≤ m_L M) (hc : cells + mc ≤ R.cells) (hs : slots + ms ≤ R.slots) (sp : n_Sp E M' [.ref a] ws post mc ms)
    (k : ∀ ws', post ws' → n_G E M Q p l e R s m args below meth c (cells + mc) (slots + ms) q al st ws') : n_G E M Q p l e R s m args below meth c cells slots pc al (.ref a :: st) ws := by
  subst hq
  obtain ⟨hx, hb, hml, hret, hown, hts, hlocks, hname, ⟨hRF, hRL⟩, hbase, hsw, hK⟩ := id C
  obtain ⟨hws, hr0, hnm, hd1, hd2, hd3⟩ := hm
  have hG : GoodIn z_big (.code (m_y M') (m_c M') (m_l M') (m_r M') :: z_big) := z_goodIn (fun w hw => by
    rcases List.mem_cons.mp hw with rfl | hw
    · exact hws _ (by simp)
    · exact hw)
  have sp2 := sp l
  have hG2 := hG
  rw [hr0] at sp2 hG2
  exact n_run C (as := [.ref a]) (rest := st) (fun H locs ls hW hL => va_runI (As := []) (rest := st) (b := a) ⟨hx, hb, hml, hown, hts⟩ sp2 (cwI 0 hts hG2 rfl rfl rfl (hts _ (hws _ (by simp))) (hts _ (hws _ (by simp))) (hts _ (hws _ (by simp))) hnm ⟨hd1, hd2, hd3⟩ (by rw [hRF, hRL]; exact hR)) ⟨n_Pc_blind, n_Pc_of hbase hsw hK hW⟩ rfl rfl hL.1 rfl (lv_room hst) hd ⟨hc, hs⟩) k
def n_ink (M' : zM) : Prop := (∀ w ∈ ([.instanceMethod (m_y M'), .initialized (m_y M').cls, .code (m_y M') (m_c M') (m_l M') (m_r M')] : List Cond), w ∈ z_big) ∧ m_r M' = none ∧ (m_y M').name = "<init>" ∧
  ((m_y M').cls ≠ "java/lang/invoke/MethodHandle" ∧ (m_y M').cls ≠ "java/lang/invoke/VarHandle" ∧ (parseMethodDescriptor (m_y M').desc).map (fun d => d.parameters.length) = some 0)
theorem n_callIN (C : n_Cx E M p R s m args meth c) {ix a mc ms : Nat} {host : String} {post : va_W → Prop} (hd : decode (m_c M) pc = .ok (.invokespecial ix, 3)) (hq : pc + 3 = q) (hm : n_ink M') (hl : n_sw s → va_Nw (.methodLinkNest (m_y M).cls ix (m_y M') host) s) (hst : ((st.map fun v => v.category).sum) ≤ 8) (hR : m_F M' + 1 ≤ m_F M ∧ 8 + (m_l M' + 11) + m_L M' ≤ m_L M) (hc : cells + mc ≤ R.cells) (hs : slots + ms ≤ R.slots) (sp : n_Sp E M' [.ref a] ws post mc ms)
    (k : ∀ ws', post ws' → n_G E M Q p l e R s m args below meth c (cells + mc) (slots + ms) q al st ws') : n_G E M Q p l e R s m args below meth c cells slots pc al (.ref a :: st) ws := by
  subst hq
  obtain ⟨hx, hb, hml, hret, hown, hts, hlocks, hname, ⟨hRF, hRL⟩, hbase, hsw, hK⟩ := id C
  obtain ⟨hws, hr0, hnm, hd1, hd2, hd3⟩ := hm
  have hG : GoodIn z_big (.code (m_y M') (m_c M') (m_l M') (m_r M') :: z_big) := z_goodIn (fun w hw => by
    rcases List.mem_cons.mp hw with rfl | hw
    · exact hws _ (by simp)
    · exact hw)
  have sp2 := sp l
  have hG2 := hG
  rw [hr0] at sp2 hG2
  exact n_run C (as := [.ref a]) (rest := st) (fun H locs ls hW hL => va_runIN (As := []) (rest := st) (b := a) ⟨hx, hb, hml, hown, hts⟩ sp2 ⟨va_cnB 0 hts hG2 rfl rfl rfl (hl hsw) (hts _ (hws _ (by simp))) ⟨hd1, hd2, hd3⟩ (by rw [hRF, hRL]; exact hR), hnm, hts _ (hws _ (by simp))⟩ ⟨n_Pc_blind, n_Pc_of hbase hsw hK hW⟩ rfl rfl hL.1 rfl (lv_room hst) hd ⟨hc, hs⟩) k
end
/-! the frame of a world: an object that is made, and what it made -/
theorem n_canon {ws : va_W} {q0 : Nat} {x : Nat × va_E} (h : ws[q0]? = some x) : ws = ws.set q0 x ++ [] := by
  rw [List.append_nil]
  apply List.ext_getElem?
  intro j
  by_cases hj : j = q0
  · subst hj
    rw [List.getElem?_set_self (List.getElem?_eq_some_iff.mp h).1, h]
  · rw [List.getElem?_set_ne (Ne.symm hj)]
theorem n_at {ws new : va_W} {q0 : Nat} {x y : Nat × va_E} (h : ws[q0]? = some x) : (ws.set q0 y ++ new)[q0]? = some y := by
  have hl := (List.getElem?_eq_some_iff.mp h).1
  rw [List.getElem?_append_left (by rw [List.length_set]; exact hl), List.getElem?_set_self hl]
theorem n_set {ws new : va_W} {q0 : Nat} {x y z : Nat × va_E} (h : ws[q0]? = some x) : (ws.set q0 y ++ new).set q0 z = ws.set q0 z ++ new := by
  have hl := (List.getElem?_eq_some_iff.mp h).1
  rw [List.set_append_left _ _ (by rw [List.length_set]; exact hl), List.set_set]
theorem n_nat {ws new : va_W} {q0 k : Nat} {y : Nat × va_E} : (ws.set q0 y ++ new)[ws.length + k]? = new[k]? := by
  rw [List.getElem?_append_right (by rw [List.length_set]; omega), List.length_set]
  congr 1
  omega
theorem n_nset {ws new : va_W} {q0 k : Nat} {y z : Nat × va_E} : (ws.set q0 y ++ new).set (ws.length + k) z = ws.set q0 y ++ new.set k z := by
  rw [List.set_append_right _ _ (by rw [List.length_set]; omega), List.length_set]
  congr 2
  omega
theorem n_fset {ws : va_W} {q0 : Nat} {x : Nat × va_E} {w2 new : va_W} : (w2 ++ [x]) ++ new = w2 ++ ([x] ++ new) := List.append_assoc _ _ _
/-- array cells go by what they hold below their length -/
theorem n_cellc {cA : ClassId} {n : Nat} {f g : Nat → Int32} (h : ∀ j, j < n → f j = g j) : vp_cell cA (n, .inl f) = vp_cell cA (n, .inl g) := by
  rw [vp_cell_i, vp_cell_i]
  unfold arrV
  congr 2
  funext j
  show Value.int (f j.val) = Value.int (g j.val)
  rw [h j.val j.isLt]
theorem n_same {E : zE} {ws : va_W} {s : State} {H : Heap} {locs : List Loc} {q0 a n : Nat} {cA : ClassId} {f g : Nat → Int32} (h : n_Wd E ws s H locs) (he : ws[q0]? = some (a, .inl (cA, n, .inl f))) (hfg : ∀ j, j < n → f j = g j) : n_Wd E (ws.set q0 (a, .inl (cA, n, .inl g))) s H locs := by
  refine ⟨h.1.set h.2.1 he ?_ (fun _ _ => rfl), h.2.1.set he, h.2.2⟩
  have h1 := h.1 q0 _ he
  show H[a]? = some (vp_cell _ _)
  rw [← n_cellc hfg]
  exact h1
