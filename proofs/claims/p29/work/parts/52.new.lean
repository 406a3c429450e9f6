/-! ===== what is made: worlds that grow ===== -/
def n_sw (s : State) : Prop := va_Nw (.methodLinkNest RX6 15 yX2_init RX6) s ∧ va_Nw (.methodLinkNest RX6 29 yX4_init RX6) s ∧ va_Nw (.methodLinkNest RX6 43 yX3_init RX6) s ∧ va_Nw (.methodLinkNest RX6 50 yX5_init RX6) s ∧ va_AOA .int s
theorem va_AOA.warm {ty : FieldType} {s U : State} (hW : s.WarmedH U.vm) (h : va_AOA ty s) : va_AOA ty U := by
  have e := Cond.arrayOver_setVmC (args := #[]) (s := s) hW.alike (.array ty)
  exact e.trans h
theorem n_sw.warm {s U : State} (hW : s.WarmedH U.vm) (h : n_sw s) : n_sw U := ⟨h.1.warmM hW, h.2.1.warmM hW, h.2.2.1.warmM hW, h.2.2.2.1.warmM hW, h.2.2.2.2.warm hW⟩
def n_Wd (E : zE) (ws : va_W) (s : State) (H : Heap) (locs : List Loc) : Prop := va_P (e_D E) vwCl ws H ∧ va_D (z_A E) ws ∧ va_S (z_A E) s.heap H locs
def n_Cx (E : zE) (M : zM) (p : Program) (R : Room) (s : State) (m : MethodId) (args : Array Value) (meth : Method) (c : Code) : Prop :=
  p.tables.exec = Jvm.exec ∧ c.code = m_c M ∧ c.maxLocals = m_l M ∧ meth.sig.returnType = m_r M ∧ s.vm.findClass (m_y M).cls = some m.cls ∧ (∀ w ∈ z_big, w.before args s = true) ∧ meth.locks = false ∧ ((m_y M).name = "<init>" → meth.name = "<init>") ∧ (R.frames = m_F M ∧ R.locals = m_L M) ∧ e_b E ≤ s.heap.size ∧ n_sw s ∧ va_K (e_D E) vwCl (z_tys E) s
def n_G (E : zE) (M : zM) (Q : State → Prop) (p : Program) (l : Launch) (e : Env) (R : Room) (s : State) (m : MethodId) (args : Array Value) (below : List Frame) (meth : Method) (c : Code) (cells slots pc : Nat) (al : List (Nat × Value)) (st : List Value) (ws : va_W) : Prop :=
  ∀ (H : Heap) (locs : List Loc) (ls : Array Slot), n_Wd E ws s H locs → lv_has ls (m_l M) al → W p l e R s m args below meth c H locs cells slots Q (F0 m pc ls st)
/-- a number is pushed -/
def n_push (cc : ByteArray) (pc : Nat) (z : Int) (q : Nat) : Prop := (decode cc pc = .ok (.bipush z, 2) ∧ pc + 2 = q ∧ (Int8.ofInt z).toInt32 = Int32.ofInt z) ∨ (decode cc pc = .ok (.sipush z, 3) ∧ pc + 3 = q ∧ (Int16.ofInt z).toInt32 = Int32.ofInt z) ∨ (decode cc pc = .ok (.iconst z, 1) ∧ pc + 1 = q)
/-- field sl of class ci takes v -/
def n_fp (ci sl : Nat) (v : Value) : Prop := ∃ (C : String) (T : u_T) (N : Nat) (ty : Nat → FieldType) (t : FieldType), vwCl[ci]? = some (C, T, N) ∧ (∀ k, k < N → parseFieldDescriptor (T k).2.2.1 = some (ty k)) ∧ (∀ a, a < N → ∀ b, b < N → a ≠ b → (T a).2.1 ≠ (T b).2.1) ∧ parseFieldDescriptor (T sl).2.2.1 = some t ∧ narrow t v = v ∧ fits t v = true
section
variable {E : zE} {M : zM} {Q : State → Prop} {p : Program} {l : Launch} {e : Env} {R : Room} {s : State} {m : MethodId} {args : Array Value} {below : List Frame} {meth : Method} {c : Code} {cells slots pc q : Nat} {al : List (Nat × Value)} {st : List Value} {ws : va_W}
theorem n_hA (C : n_Cx E M p R s m args meth c) : ∀ q : Nat, s.heap.size ≤ q → z_A E q := fun q hq => by
  have h := C.2.2.2.2.2.2.2.2.2.1
  show e_b E ≤ q
  omega
theorem n_aload (C : n_Cx E M p R s m args meth c) {n : Fin 4} {i a : Nat} (hd : decode (m_c M) pc = .ok (.aload_n n, 1)) (hi : (n : Nat) = i) (hq : pc + 1 = q) (k9 : Nat) (hl : al[k9]? = some (i, .ref a)) (k : n_G E M Q p l e R s m args below meth c cells slots q al (.ref a :: st) ws) : n_G E M Q p l e R s m args below meth c cells slots pc al st ws := by
  intro H locs ls hW hL
  subst hq
  exact lv_aload_n C.1 C.2.1 hd hi (lv_at hL k9 hl) (k H locs ls hW hL)
theorem n_iload (C : n_Cx E M p R s m args meth c) {n : Fin 4} {i : Nat} {x : Int32} (hd : decode (m_c M) pc = .ok (.iload_n n, 1)) (hi : (n : Nat) = i) (hq : pc + 1 = q) (k9 : Nat) (hl : al[k9]? = some (i, .int x)) (k : n_G E M Q p l e R s m args below meth c cells slots q al (.int x :: st) ws) : n_G E M Q p l e R s m args below meth c cells slots pc al st ws := by
  intro H locs ls hW hL
  subst hq
  exact lv_iload_n C.1 C.2.1 hd hi (lv_at hL k9 hl) (k H locs ls hW hL)
theorem n_int (C : n_Cx E M p R s m args meth c) {z : Int} (hp : n_push (m_c M) pc z q) (k : n_G E M Q p l e R s m args below meth c cells slots q al (.int (Int32.ofInt z) :: st) ws) : n_G E M Q p l e R s m args below meth c cells slots pc al st ws := by
  intro H locs ls hW hL
  rcases hp with ⟨hd, hq, hv⟩ | ⟨hd, hq, hv⟩ | ⟨hd, hq⟩
  · subst hq
    exact lv_bipush C.1 C.2.1 hd hv (k H locs ls hW hL)
  · subst hq
    exact lv_sipush C.1 C.2.1 hd hv (k H locs ls hW hL)
  · subst hq
    exact lv_iconst C.1 C.2.1 hd rfl (k H locs ls hW hL)
theorem n_istore (C : n_Cx E M p R s m args meth c) {n : Fin 4} {i : Nat} {x : Int32} {al' : List (Nat × Value)} (hd : decode (m_c M) pc = .ok (.istore_n n, 1)) (hi : (n : Nat) = i) (hq : pc + 1 = q) (hn : i < m_l M) (ha : (i, Value.int x) :: al.filter (fun q => !(q.1 == i) && !(q.1 + 1 == i && q.2.category == 2)) = al') (k : n_G E M Q p l e R s m args below meth c cells slots q al' st ws) : n_G E M Q p l e R s m args below meth c cells slots pc al (.int x :: st) ws := by
  intro H locs ls hW hL
  subst hq
  exact lv_istore_n C.1 C.2.1 hd hi hL hn ha (fun ls' hl' => k H locs ls' hW hl')
theorem n_istorew (C : n_Cx E M p R s m args meth c) {i : Nat} {x : Int32} {al' : List (Nat × Value)} (hd : decode (m_c M) pc = .ok (.istore i, 2)) (hq : pc + 2 = q) (hn : i < m_l M) (ha : (i, Value.int x) :: al.filter (fun q => !(q.1 == i) && !(q.1 + 1 == i && q.2.category == 2)) = al') (k : n_G E M Q p l e R s m args below meth c cells slots q al' st ws) : n_G E M Q p l e R s m args below meth c cells slots pc al (.int x :: st) ws := by
  intro H locs ls hW hL
  subst hq
  exact lv_istore C.1 C.2.1 hd hL hn ha (fun ls' hl' => k H locs ls' hW hl')
theorem n_astore (C : n_Cx E M p R s m args meth c) {n : Fin 4} {i a : Nat} {al' : List (Nat × Value)} (hd : decode (m_c M) pc = .ok (.astore_n n, 1)) (hi : (n : Nat) = i) (hq : pc + 1 = q) (hn : i < m_l M) (ha : (i, Value.ref a) :: al.filter (fun q => !(q.1 == i) && !(q.1 + 1 == i && q.2.category == 2)) = al') (k : n_G E M Q p l e R s m args below meth c cells slots q al' st ws) : n_G E M Q p l e R s m args below meth c cells slots pc al (.ref a :: st) ws := by
  intro H locs ls hW hL
  subst hq
  exact lv_astore_n C.1 C.2.1 hd hi hL hn ha (fun ls' hl' => k H locs ls' hW hl')
theorem n_iinc (C : n_Cx E M p R s m args meth c) {i : Nat} {z : Int} {al' : List (Nat × Value)} (hd : decode (m_c M) pc = .ok (.iinc i 1, 3)) (hq : pc + 3 = q) (k9 : Nat) (hl : al[k9]? = some (i, .int (Int32.ofInt z))) (hn : i < m_l M) (ha : (i, Value.int (Int32.ofInt (z + 1))) :: al.filter (fun q => !(q.1 == i) && !(q.1 + 1 == i && q.2.category == 2)) = al') (k : n_G E M Q p l e R s m args below meth c cells slots q al' st ws) : n_G E M Q p l e R s m args below meth c cells slots pc al st ws := by
  intro H locs ls hW hL
  subst hq
  exact lv_iinc (v := Int32.ofInt (z + 1)) C.1 C.2.1 hd hL hl z_add hn ha (fun ls' hl' => k H locs ls' hW hl')
theorem n_goto (C : n_Cx E M p R s m args meth c) {off : Int} (hd : decode (m_c M) pc = .ok (.goto off, 3)) (ht : (pc : Int) + off = (q : Int)) (k : n_G E M Q p l e R s m args below meth c cells slots q al st ws) : n_G E M Q p l e R s m args below meth c cells slots pc al st ws := by
  intro H locs ls hW hL
  exact lv_goto C.1 C.2.1 hd ht (k H locs ls hW hL)
theorem n_icmp_ge (C : n_Cx E M p R s m args meth c) {off x y : Int} {t : Nat} (hd : decode (m_c M) pc = .ok (.if_icmp .ge off, 3)) (ht : (pc : Int) + off = (t : Int)) (hq : pc + 3 = q) (hx : z_in x) (hy : z_in y) (kt : y ≤ x → n_G E M Q p l e R s m args below meth c cells slots t al st ws) (kf : x < y → n_G E M Q p l e R s m args below meth c cells slots q al st ws) : n_G E M Q p l e R s m args below meth c cells slots pc al (.int (Int32.ofInt y) :: .int (Int32.ofInt x) :: st) ws := by
  intro H locs ls hW hL
  subst hq
  refine lv_icmp_ge (tgt := t) C.1 C.2.1 hd ht (fun h => kt ?_ H locs ls hW hL) (fun h => kf ?_ H locs ls hW hL)
  · rw [z_le hy hx] at h
    exact h
  · rw [z_le hy hx] at h
    omega
theorem n_dup (C : n_Cx E M p R s m args meth c) {a : Nat} (hd : decode (m_c M) pc = .ok (.dup, 1)) (hq : pc + 1 = q) (k : n_G E M Q p l e R s m args below meth c cells slots q al (.ref a :: .ref a :: st) ws) : n_G E M Q p l e R s m args below meth c cells slots pc al (.ref a :: st) ws := by
  intro H locs ls hW hL
  subst hq
  exact lv_dup C.1 C.2.1 hd rfl (k H locs ls hW hL)
theorem n_newarr (C : n_Cx E M p R s m args meth c) {atype : ArrayType} {ty : FieldType} {z : Int} {N t0 : Nat} {a0 : vp_A} {cA0 : ClassId} (hd : decode (m_c M) pc = .ok (.newarray atype, 2)) (hq : pc + 2 = q) (hty : newarray.typeOf atype = ty) (hw : Cond.arrayClass (newarray.typeOf atype) ∈ z_big) (ht : (z_tys E)[t0]? = some (cA0, ty)) (hra : ∀ (U : State) (cA : ClassId), va_RA U cA ty → U.vm.findClass ("[" ++ ty.toString) = some cA)
    (ha : ∀ cA : ClassId, vp_cell cA a0 = arrV cA N (fun _ => defaultValue ty)) (hn : ¬ Int32.ofInt z < 0) (hN : (Int32.ofInt z).toNatClampNeg = N) (hb : N * componentBytes ty ≤ 536870912) (hc : cells + 1 ≤ R.cells) (hs : slots + N ≤ R.slots)
    (k : ∀ qa : Nat, n_G E M Q p l e R s m args below meth c (cells + 1) (slots + N) q al (.ref qa :: st) (ws ++ [(qa, .inl (cA0, a0))])) : n_G E M Q p l e R s m args below meth c cells slots pc al (.int (Int32.ofInt z) :: st) ws := by
  intro H locs ls hW hL
  subst hq
  have hK := C.2.2.2.2.2.2.2.2.2.2.2
  refine va_newa C.1 C.2.1 (C.2.2.2.2.2.1 _ hw) hty hK hW.1 hW.2.1 hW.2.2 (n_hA C) ha hn hN hb hc hs hd (fun q9 cA H1 hK1 hP1 hD1 hS1 => ?_)
  have e1 := hra s cA (hK1.2 (z_tys E).length (cA, ty) (by simp)).2
  have e2 := hra s cA0 (hK.2 t0 _ ht).2
  have e3 : cA = cA0 := Option.some.inj (e1.symm.trans e2)
  subst e3
  exact k q9 H1 locs ls ⟨hP1, hD1, hS1⟩ hL
theorem n_get (C : n_Cx E M p R s m args meth c) {ix ci sl q0 a : Nat} {fs : List Value} {v : Value} (hd : decode (m_c M) pc = .ok (.getfield ix, 3)) (hq : pc + 3 = q) (hk : z_fk (m_y M).cls ix ci sl) (he : ws[q0]? = some (a, .inr (ci, fs))) (hv : fs[sl]? = some v) (k : n_G E M Q p l e R s m args below meth c cells slots q al (v :: st) ws) : n_G E M Q p l e R s m args below meth c cells slots pc al (.ref a :: st) ws := by
  intro H locs ls hW hL
  subst hq
  obtain ⟨Cn, T, N, h1, h2, h3, h4, h5⟩ := hk
  exact va_get (ref := Cn) C.1 C.2.1 C.2.2.2.2.2.1 h3 C.2.2.2.2.1 C.2.2.2.2.2.2.2.2.2.2.2 hW.1 q0 he h1 sl h2 (C.2.2.2.2.2.1 _ h4) (fun x hx => by rw [h5] at hx; exact hx) hv hd (k H locs ls hW hL)
theorem n_put (C : n_Cx E M p R s m args meth c) {ix ci sl q0 a : Nat} {fs : List Value} {v : Value} (hd : decode (m_c M) pc = .ok (.putfield ix, 3)) (hq : pc + 3 = q) (hk : z_fk (m_y M).cls ix ci sl) (hp : n_fp ci sl v) (hnm : (m_y M).name = "<init>") (hcl : ∀ r : vw_C, vwCl[ci]? = some r → r.1 = (m_y M).cls) (he : ws[q0]? = some (a, .inr (ci, fs))) (hl : sl < fs.length) (k : n_G E M Q p l e R s m args below meth c cells slots q al st (ws.set q0 (a, .inr (ci, fs.set sl v)))) : n_G E M Q p l e R s m args below meth c cells slots pc al (v :: .ref a :: st) ws := by
  intro H locs ls hW hL
  subst hq
  obtain ⟨Cn, T, N, h1, h2, h3, h4, h5⟩ := hk
  obtain ⟨C', T', N', ty, t, g1, g2, g3, g4, g5, g6⟩ := hp
  cases h1.symm.trans g1
  by_cases hf : (T sl).2.2.2 = true
  · exact va_putF (ref := Cn) C.1 C.2.1 C.2.2.2.2.2.1 h3 ty g2 g3 C.2.2.2.2.1 C.2.2.2.2.2.2.2.2.2.2.2 hW.1 hW.2.1 hW.2.2 q0 he h1 sl h2 (C.2.2.2.2.2.1 _ h4) (fun x hx => by rw [h5] at hx; exact hx) hf (C.2.2.2.2.2.2.2.1 hnm) (h5.trans (hcl _ h1)) g4 g5 g6 hl hd (fun H1 locs1 hP1 hD1 hS1 => k H1 locs1 ls ⟨hP1, hD1, hS1⟩ hL)
  · exact va_put (ref := Cn) C.1 C.2.1 C.2.2.2.2.2.1 h3 ty g2 g3 C.2.2.2.2.1 C.2.2.2.2.2.2.2.2.2.2.2 hW.1 hW.2.1 hW.2.2 q0 he h1 sl h2 (C.2.2.2.2.2.1 _ h4) (fun x hx => by rw [h5] at hx; exact hx) (by simpa using hf) g4 g5 g6 hl hd (fun H1 locs1 hP1 hD1 hS1 => k H1 locs1 ls ⟨hP1, hD1, hS1⟩ hL)
theorem n_iast (C : n_Cx E M p R s m args meth c) {q0 a n : Nat} {g : Nat → Int32} {i x : Int} (hd : decode (m_c M) pc = .ok (.iastore, 1)) (hq : pc + 1 = q) (he : ws[q0]? = some (a, .inl (e_cy E 0, n, .inl g))) (hi : z_in i) (h0 : 0 ≤ i) (h1 : i < n) (k : n_G E M Q p l e R s m args below meth c cells slots q al st (ws.set q0 (a, .inl (e_cy E 0, n, .inl (upd g i.toNat (Int32.ofInt x)))))) : n_G E M Q p l e R s m args below meth c cells slots pc al (.int (Int32.ofInt x) :: .int (Int32.ofInt i) :: .ref a :: st) ws := by
  intro H locs ls hW hL
  subst hq
  refine va_iast C.1 C.2.1 C.2.2.2.2.2.2.2.2.2.2.2 hW.1 hW.2.1 hW.2.2 q0 0 he rfl (z_vin hi h0 h1) hd (fun H1 locs1 hP1 hD1 hS1 => ?_)
  rw [z_clamp hi] at hP1 hD1
  exact k H1 locs1 ls ⟨hP1, hD1, hS1⟩ hL
theorem n_alen (C : n_Cx E M p R s m args meth c) {q0 a n : Nat} {g : Nat → Int32} (hd : decode (m_c M) pc = .ok (.arraylength, 1)) (hq : pc + 1 = q) (he : ws[q0]? = some (a, .inl (e_cy E 0, n, .inl g))) (k : n_G E M Q p l e R s m args below meth c cells slots q al (.int (Int32.ofInt (n : Int)) :: st) ws) : n_G E M Q p l e R s m args below meth c cells slots pc al (.ref a :: st) ws := by
  intro H locs ls hW hL
  subst hq
  exact va_alen C.1 C.2.1 C.2.2.2.2.2.2.2.2.2.2.2 hW.1 q0 0 he (ty := .int) rfl (v := Int32.ofInt (n : Int)) (Int32.ofInt_eq_ofNat (n := n)).symm hd (k H locs ls hW hL)
/-- an array of arrays of ints: a row -/
theorem n_aald (C : n_Cx E M p R s m args meth c) {q0 a n b : Nat} {g : Nat → Option Nat} {i : Int} (hd : decode (m_c M) pc = .ok (.aaload, 1)) (hq : pc + 1 = q) (he : ws[q0]? = some (a, .inl (e_cy E 2, n, .inr (.inr (.inr (.inr g)))))) (hi : z_in i) (h0 : 0 ≤ i) (h1 : i < n) (hg : g i.toNat = some b) (k : n_G E M Q p l e R s m args below meth c cells slots q al (.ref b :: st) ws) : n_G E M Q p l e R s m args below meth c cells slots pc al (.int (Int32.ofInt i) :: .ref a :: st) ws := by
  intro H locs ls hW hL
  subst hq
  have ha := C.2.2.2.2.2.2.2.2.2.2.2.2 2 _ rfl
  refine W.aald (v := .ref b) (ty := .array .int) C.1 C.2.1 (hW.1 q0 _ he) (ha.1 n (fun j => va_rf (g j))) rfl (fun q => by cases q) (by show ¬ (_ ∨ (arrV _ _ _).slots.size ≤ _); rw [arrV_size]; exact z_vin hi h0 h1) ?_ rfl rfl hd (k H locs ls hW hL)
  show (arrV _ _ _).slots[_]? = _
  rw [z_clamp hi, arrV_read _ _ (show i.toNat < n by omega)]
  show some (va_rf (g i.toNat)) = _
  rw [hg]
  rfl
theorem n_objinit (C : n_Cx E M p R s m args meth c) {ix a : Nat} (hd : decode (m_c M) pc = .ok (.invokespecial ix, 3)) (hq : pc + 3 = q) (h1 : Cond.methodLink (m_y M).cls ix objectInit ∈ z_big) (hF : 1 ≤ m_F M) (hL12 : 12 ≤ m_L M) (hh : ∀ w ∈ ([.instanceMethod objectInit, .code objectInit ⟨#[0xb1]⟩ 1 none] : List Cond), w ∈ z_big) (k : n_G E M Q p l e R s m args below meth c cells slots q al [] ws) : n_G E M Q p l e R s m args below meth c cells slots pc al [.ref a] ws := by
  intro H locs ls hW hL
  subst hq
  obtain ⟨hx, hb, hml, hret, hown, hts, hlocks, hname, ⟨hRF, hRL⟩, hbase, hsw, hK⟩ := id C
  refine W.objInit hx hb hown (hts _ h1) (hts _ (hh _ (by simp))) (hts _ (hh _ (by simp))) rfl (by rw [hml]; exact hL.1) rfl hd (by rw [hRF]; exact hF) (by rw [hRL]; exact hL12) ?_
  exact W.eq (g2 := F0 m (pc + 3) ls []) rfl (k H locs ls hW hL)
theorem n_new (C : n_Cx E M p R s m args meth c) {ix ci N : Nat} {Cn : String} {T : u_T} {fs : List Value} (ty : Nat → FieldType) (hd : decode (m_c M) pc = .ok (.new ix, 3)) (hq : pc + 3 = q) (hc : vwCl[ci]? = some (Cn, T, N)) (hin : ∀ w ∈ u_ws Cn T N, w ∈ z_big) (hty : ∀ k, k < N → parseFieldDescriptor (T k).2.2.1 = some (ty k)) (hh : ∀ w ∈ ([.classLink (m_y M).cls ix Cn, .instantiable Cn N, .initialized Cn] : List Cond), w ∈ z_big) (hfs : ∀ j, j < N → defaultValue (ty j) = vp_V fs j) (hce : cells + 1 ≤ R.cells) (hsl : slots + N ≤ R.slots)
    (k : ∀ qa : Nat, n_G E M Q p l e R s m args below meth c (cells + 1) (slots + N) q al (.ref qa :: st) (ws ++ [(qa, .inr (ci, fs))])) : n_G E M Q p l e R s m args below meth c cells slots pc al st ws := by
  intro H locs ls hW hL
  subst hq
  obtain ⟨hx, hb, hml, hret, hown, hts, hlocks, hname, hR, hbase, hsw, hK⟩ := id C
  exact va_new hx hb hts hin ty hty hown (hts _ (hh _ (by simp))) (hts _ (hh _ (by simp))) (hts _ (hh _ (by simp))) hK hW.1 hW.2.1 hW.2.2 (n_hA C) hc hfs hce hsl hd (fun qa H1 hP1 hD1 hS1 => k qa H1 locs ls ⟨hP1, hD1, hS1⟩ hL)
end
/-- a method that makes: from ws to a world with post -/
def n_Pc (E : zE) (as : List Value) (ws : va_W) : Array Value → State → Prop := va_Pc as (fun U => va_P (e_D E) vwCl ws U.heap ∧ va_D (z_A E) ws ∧ e_b E ≤ U.heap.size ∧ n_sw U ∧ va_K (e_D E) vwCl (z_tys E) U)
def n_Qc (E : zE) (post : va_W → Prop) : Array Value → State → Outcome → State → Prop := va_Qv post (fun ws' t => va_P (e_D E) vwCl ws' t.heap ∧ va_D (z_A E) ws') (z_A E)
def n_rm (M : zM) (mc ms : Nat) : Room := { frames := m_F M, cells := mc, slots := ms, locals := m_L M }
def n_Sp (E : zE) (M : zM) (as : List Value) (ws : va_W) (post : va_W → Prop) (mc ms : Nat) : Prop := ∀ l : Launch, Met l (m_y M) (.code (m_y M) (m_c M) (m_l M) (m_r M) :: z_big) (n_rm M mc ms) (n_Pc E as ws) (n_Qc E post) mc ms (z_A E)
theorem n_Pc_blind {E : zE} {as : List Value} {ws : va_W} : FrameBlind (n_Pc E as ws) := by
  intro a U g mk h
  obtain ⟨h1, h2, h3, h4, h5, h6⟩ := h
  exact ⟨h1, h2, h3, h4, n_sw.warm (s := U) (U := U.calling g mk a) (State.WarmedH.refl U) h5, va_K.moved (u := U) (U := U.calling g mk a) (Vm.Alike.refl U.vm) h6⟩
theorem n_Pc_of {E : zE} {as : List Value} {ws : va_W} {s : State} {H : Heap} {locs : List Loc} (hb : e_b E ≤ s.heap.size) (hsw : n_sw s) (hK : va_K (e_D E) vwCl (z_tys E) s) (hW : n_Wd E ws s H locs) : ∀ U : State, U.heap = H → s.WarmedH U.vm → n_Pc E as ws as.toArray U := by
  intro U hU hw
  refine ⟨rfl, ?_, hW.2.1, ?_, hsw.warm hw, hK.moved hw.alike⟩
  · rw [hU]
    exact hW.1
  · rw [hU]
    exact Nat.le_trans hb hW.2.2.1
theorem n_enter {E : zE} {M : zM} {as : List Value} {ws : va_W} {post : va_W → Prop} {mc ms : Nat} (hy : plainName (m_y M).cls = true) (hl : (lg_sl as).length ≤ m_l M)
    (k : ∀ (p : Program) (l : Launch) (e : Env) (s : State) (m : MethodId) (below : List Frame) (meth : Method) (c : Code), n_Cx E M p (n_rm M mc ms) s m as.toArray meth c → n_G E M (MQ below (n_Qc E post) as.toArray s mc ms (z_A E)) p l e (n_rm M mc ms) s m as.toArray below meth c 0 0 0 (lv_args 0 as) [] ws) : n_Sp E M as ws post mc ms := by
  intro l
  refine Met.ofW (cc := m_c M) (maxL := m_l M) (ret := m_r M) hy rfl ?_
  intro p e s m args below meth c s₁ B hml hv
  obtain ⟨rfl, hP, hD, hb, hsw, hK⟩ := hv
  have hts0 := atoms_spec (ws := Cond.code (m_y M) (m_c M) (m_l M) (m_r M) :: z_big) B.pre
  have hts : ∀ w ∈ z_big, w.before as.toArray s = true := fun w hw => hts0 w (List.mem_cons_of_mem _ hw)
  rw [lg_entry_eq]
  exact k p l e s m below meth c ⟨B.exec, B.bytes, hml, B.returns, findClass_of_methodNamed B.named, hts, B.notSynchronized, fun h => (name_of_methodNamed B.named B.method).1.trans h, ⟨rfl, rfl⟩, hb, hsw, hK⟩ s.heap [] _ ⟨hP, hD, va_S.rf⟩ (lv_entry as (n := m_l M) hl)
