/-! ===== RULES: fields, arrays, ends ===== -/
theorem z_big_in {w : Cond} (h : w ∈ z_big) : w ∈ lw_tbl := (List.mem_filter.mp h).1
theorem z_big_good {w : Cond} (h : w ∈ z_big) : goodWord w = true := (List.mem_filter.mp h).2
theorem z_big_of {w : Cond} (h : w ∈ lw_tbl) (g : goodWord w = true) : w ∈ z_big := List.mem_filter.mpr ⟨h, g⟩
theorem z_goodIn {L : List Cond} (h : ∀ w ∈ L, w ∈ z_big) : GoodIn z_big L := fun w hw => ⟨h w hw, good_of_word (z_big_good (h w hw))⟩
/-- own's link ix is to field sl of class ci -/
def z_fk (own : String) (ix ci sl : Nat) : Prop := ∃ (C : String) (T : u_T) (N : Nat), vwCl[ci]? = some (C, T, N) ∧ sl < N ∧ (∀ w ∈ u_ws C T N, w ∈ z_big) ∧ Cond.fieldLink own ix C (T sl).2.1 (T sl).2.2.1 ∈ z_big ∧ (T sl).1 = C
/-- field sl of class ci is an int that may be written -/
def z_fp (ci sl : Nat) : Prop := ∃ (C : String) (T : u_T) (N : Nat) (ty : Nat → FieldType), vwCl[ci]? = some (C, T, N) ∧ (∀ k, k < N → parseFieldDescriptor (T k).2.2.1 = some (ty k)) ∧ (∀ a, a < N → ∀ b, b < N → a ≠ b → (T a).2.1 ≠ (T b).2.1) ∧ (T sl).2.2.2 = false ∧ parseFieldDescriptor (T sl).2.2.1 = some .int
theorem z_obj_lt {o : Nat} {q : Nat × List (Nat ⊕ Nat)} (h : z_obj o = some q) : o < 49 := by
  by_cases g : o < 8
  · omega
  · exfalso
    have hn : z_obj o = none := by
      unfold z_obj
      split <;> first | rfl | omega
    rw [hn] at h
    cases h
theorem z_cell_obj {ad : Nat → Nat} {cy : Nat → ClassId} {S : zS} {o ci : Nat} {fl : List (Nat ⊕ Nat)} (ho : z_obj o = some (ci, fl)) : z_cell ad cy S o = .inr (ci, fl.map (z_fv ad S)) := by
  unfold z_cell
  rw [ho]
theorem z_cell_arr {ad : Nat → Nat} {cy : Nat → ClassId} {S : zS} {o : Nat} {t : Nat × Nat} (ho : z_obj o = none) (ha : z_arr o = t) : z_cell ad cy S o = z_av ad cy S o t := by
  unfold z_cell
  rw [ho]
  show z_av _ _ _ _ _ = _
  rw [ha]
section
variable {M : zM} {F : zF} {u pc q : Nat} {al : List (Option zV)} {st : List zV} {S : zS}
theorem g_getr {ix o ci sl r : Nat} {fl : List (Nat ⊕ Nat)} (hd : decode (m_c M) pc = .ok (.getfield ix, 3)) (hq : pc + 3 = q) (hk : z_fk (m_y M).cls ix ci sl) (ho : z_obj o = some (ci, fl)) (hf : fl[sl]? = some (.inl r)) (k : z_G M F u q al (zR r :: st) S) : z_G M F u pc al (zR o :: st) S := by
  intro E p l e R s m args below meth c C H locs ls hW hS hL hst
  subst hq
  obtain ⟨Cn, T, N, h1, h2, h3, h4, h5⟩ := hk
  have he : (z_w E S)[o]? = some (e_ad E o, .inr (ci, fl.map (z_fv (e_ad E) S))) := by rw [z_wl_get (z_obj_lt ho), z_cell_obj ho]
  refine va_get (ref := Cn) C.1 C.2.1 C.2.2.2.2.2.1 h3 C.2.2.2.2.1 hW.2.1 hW.1 o he h1 sl h2 (C.2.2.2.2.2.1 _ h4) (fun x hx => by rw [h5] at hx; exact hx) (v := .ref (e_ad E r)) (by rw [List.getElem?_map, hf]; rfl) hd ?_
  exact k E p l e R s m args below meth c C H locs ls hW hS hL (z_cons trivial (z_tail hst))
theorem g_geti {ix o ci sl i : Nat} {fl : List (Nat ⊕ Nat)} (hd : decode (m_c M) pc = .ok (.getfield ix, 3)) (hq : pc + 3 = q) (hk : z_fk (m_y M).cls ix ci sl) (ho : z_obj o = some (ci, fl)) (hf : fl[sl]? = some (.inr i)) (k : z_G M F u q al (zI (S.1 i) :: st) S) : z_G M F u pc al (zR o :: st) S := by
  intro E p l e R s m args below meth c C H locs ls hW hS hL hst
  subst hq
  obtain ⟨Cn, T, N, h1, h2, h3, h4, h5⟩ := hk
  have he : (z_w E S)[o]? = some (e_ad E o, .inr (ci, fl.map (z_fv (e_ad E) S))) := by rw [z_wl_get (z_obj_lt ho), z_cell_obj ho]
  refine va_get (ref := Cn) C.1 C.2.1 C.2.2.2.2.2.1 h3 C.2.2.2.2.1 hW.2.1 hW.1 o he h1 sl h2 (C.2.2.2.2.2.1 _ h4) (fun x hx => by rw [h5] at hx; exact hx) (v := .int (Int32.ofInt (S.1 i))) (by rw [List.getElem?_map, hf]; rfl) hd ?_
  exact k E p l e R s m args below meth c C H locs ls hW hS hL (z_cons (hW.2.2.2.2.2.1 i) (z_tail hst))
theorem g_put {ix o ci sl i : Nat} {z : Int} {fl : List (Nat ⊕ Nat)} (hd : decode (m_c M) pc = .ok (.putfield ix, 3)) (hq : pc + 3 = q) (hk : z_fk (m_y M).cls ix ci sl) (hp : z_fp ci sl) (ho : z_obj o = some (ci, fl)) (hf : fl[sl]? = some (.inr i)) (k : z_G M F u q al st (z_sS S i z)) : z_G M F u pc al (zI z :: zR o :: st) S := by
  intro E p l e R s m args below meth c C H locs ls hW hS hL hst
  subst hq
  obtain ⟨Cn, T, N, h1, h2, h3, h4, h5⟩ := hk
  obtain ⟨C', T', N', ty, g1, g2, g3, g4, g5⟩ := hp
  cases h1.symm.trans g1
  have h64 := z_obj_lt ho
  have hl := (List.getElem?_eq_some_iff.mp hf).1
  have hh : z_home i = (o, sl) := z_homes o h64 _ ho sl hl i hf
  have he : (z_w E S)[o]? = some (e_ad E o, .inr (ci, fl.map (z_fv (e_ad E) S))) := by rw [z_wl_get h64, z_cell_obj ho]
  have hset : (z_w E S).set o (e_ad E o, .inr (ci, (fl.map (z_fv (e_ad E) S)).set sl (.int (Int32.ofInt z)))) = z_w E (z_sS S i z) := z_wl_set h64 (z_cell_sS_at h64 hh ho hf) (z_cell_sS hh)
  refine va_put (ref := Cn) (v := .int (Int32.ofInt z)) C.1 C.2.1 C.2.2.2.2.2.1 h3 ty g2 g3 C.2.2.2.2.1 hW.2.1 hW.1 hW.2.2.1 hS o he h1 sl h2 (C.2.2.2.2.2.1 _ h4) (fun x hx => by rw [h5] at hx; exact hx) g4 g5 rfl rfl (by rw [List.length_map]; exact hl) hd (fun H1 locs1 hP1 hD1 hS1 => ?_)
  rw [hset] at hP1 hD1
  refine k E p l e R s m args below meth c C H1 locs1 ls ⟨hP1, hW.2.1, hD1, ?_, ⟨Nat.le_trans C.2.2.2.2.2.2.2.2.2.2.1 hS1.1, hW.2.2.2.2.1.2⟩, z_okS_s hW.2.2.2.2.2 (z_top hst)⟩ hS1 hL (z_tail (z_tail hst))
  exact C.2.2.2.2.2.2.2.2.2.2.2.2.kept C.2.2.2.2.2.2.2.2.2.2.1 hW.2.2.2.2.1.2.1 hS1.2.1
theorem g_iald {o n : Nat} {i : Int} (hd : decode (m_c M) pc = .ok (.iaload, 1)) (hq : pc + 1 = q) (ho : o < 49 ∧ z_obj o = none ∧ z_arr o = (0, n)) (h0 : 0 ≤ i) (h1 : i < n) (k : z_G M F u q al (zI (S.2.1 o i) :: st) S) : z_G M F u pc al (zI i :: zR o :: st) S := by
  intro E p l e R s m args below meth c C H locs ls hW hS hL hst
  subst hq
  have hi : z_in i := z_top hst
  have he : (z_w E S)[o]? = some (e_ad E o, .inl (e_cy E 0, n, .inl (fun j => Int32.ofInt (S.2.1 o j)))) := by rw [z_wl_get ho.1, z_cell_arr ho.2.1 ho.2.2]; rfl
  refine va_iald C.1 C.2.1 hW.2.1 hW.1 o 0 he rfl (z_vin hi h0 h1) hd ?_
  rw [z_clamp hi, show ((i.toNat : Nat) : Int) = i by omega]
  exact k E p l e R s m args below meth c C H locs ls hW hS hL (z_cons (hW.2.2.2.2.2.2.1 o i) (z_tail (z_tail hst)))
theorem g_zald {o n : Nat} {i : Int} (hd : decode (m_c M) pc = .ok (.baload, 1)) (hq : pc + 1 = q) (ho : o < 49 ∧ z_obj o = none ∧ z_arr o = (1, n)) (h0 : 0 ≤ i) (h1 : i < n) (k : z_G M F u q al (zI (S.2.1 o i) :: st) S) : z_G M F u pc al (zI i :: zR o :: st) S := by
  intro E p l e R s m args below meth c C H locs ls hW hS hL hst
  subst hq
  have hi : z_in i := z_top hst
  have he : (z_w E S)[o]? = some (e_ad E o, .inl (e_cy E 1, n, .inl (fun j => Int32.ofInt (S.2.1 o j)))) := by rw [z_wl_get ho.1, z_cell_arr ho.2.1 ho.2.2]; rfl
  refine va_zald C.1 C.2.1 hW.2.1 hW.1 o 1 he rfl (z_vin hi h0 h1) hd ?_
  rw [z_clamp hi, show ((i.toNat : Nat) : Int) = i by omega]
  exact k E p l e R s m args below meth c C H locs ls hW hS hL (z_cons (hW.2.2.2.2.2.2.1 o i) (z_tail (z_tail hst)))
theorem g_aald {i : Int} (hd : decode (m_c M) pc = .ok (.aaload, 1)) (hq : pc + 1 = q) (h0 : 0 ≤ i) (h1 : i < 6) (k : z_G M F u q al (zR (30 + i.toNat) :: st) S) : z_G M F u pc al (zI i :: zR 29 :: st) S := by
  intro E p l e R s m args below meth c C H locs ls hW hS hL hst
  subst hq
  have hi : z_in i := z_top hst
  have he : (z_w E S)[29]? = some (e_ad E 29, .inl (e_cy E 2, 6, .inr (.inr (.inr (.inr (fun j => if j < 6 then some (e_ad E (30 + j)) else none)))))) := by rw [z_wl_get (by omega)]; rfl
  have hin := z_vin (n := 6) hi h0 h1
  have ha := hW.2.1.2 2 _ rfl
  refine W.aald (v := .ref (e_ad E (30 + i.toNat))) (ty := .array .int) C.1 C.2.1 (hW.1 29 _ he) (ha.1 6 (fun j => va_rf (if j < 6 then some (e_ad E (30 + j)) else none))) rfl (fun q => by cases q) (by show ¬ (_ ∨ (arrV _ _ _).slots.size ≤ _); rw [arrV_size]; exact hin) ?_ rfl rfl hd ?_
  · show (arrV _ _ _).slots[_]? = _
    rw [z_clamp hi, arrV_read _ _ (show i.toNat < 6 by omega)]
    show some (va_rf (if i.toNat < 6 then some (e_ad E (30 + i.toNat)) else none)) = _
    rw [if_pos (show i.toNat < 6 by omega)]
    rfl
  · exact k E p l e R s m args below meth c C H locs ls hW hS hL (z_cons trivial (z_tail (z_tail hst)))
theorem g_alen {o a n : Nat} (hd : decode (m_c M) pc = .ok (.arraylength, 1)) (hq : pc + 1 = q) (ho : o < 49 ∧ z_obj o = none ∧ z_arr o = (0, n)) (hn : (n : Int) < 10000) (k : z_G M F u q al (zI n :: st) S) : z_G M F u pc al (zR o :: st) S := by
  intro E p l e R s m args below meth c C H locs ls hW hS hL hst
  subst hq
  have he : (z_w E S)[o]? = some (e_ad E o, .inl (e_cy E 0, n, .inl (fun j => Int32.ofInt (S.2.1 o j)))) := by rw [z_wl_get ho.1, z_cell_arr ho.2.1 ho.2.2]; rfl
  refine va_alen C.1 C.2.1 hW.2.1 hW.1 o 0 he (ty := .int) rfl (v := Int32.ofInt (n : Int)) (Int32.ofInt_eq_ofNat (n := n)).symm hd ?_
  exact k E p l e R s m args below meth c C H locs ls hW hS hL (z_cons ⟨by omega, by omega⟩ (z_tail hst))
theorem z_world {E : zE} {p : Program} {l : Launch} {R : Room} {s : State} {m : MethodId} {args : Array Value} {meth : Method} {c : Code} {H H1 : Heap} {locs1 : List Loc} {S' : zS} (C : z_Cx E M F p l R s m args meth c) (hW : z_wd E S s H) (hP1 : va_P (e_D E) vwCl (z_w E S') H1) (hD1 : va_D (z_A E) (z_w E S')) (hS1 : va_S (z_A E) s.heap H1 locs1) (hok : z_okS S') : z_wd E S' s H1 :=
  ⟨hP1, hW.2.1, hD1, C.2.2.2.2.2.2.2.2.2.2.2.2.kept C.2.2.2.2.2.2.2.2.2.2.1 hW.2.2.2.2.1.2.1 hS1.2.1, ⟨Nat.le_trans C.2.2.2.2.2.2.2.2.2.2.1 hS1.1, hW.2.2.2.2.1.2⟩, hok⟩
theorem g_iast {o n : Nat} {i v : Int} (hd : decode (m_c M) pc = .ok (.iastore, 1)) (hq : pc + 1 = q) (ho : o < 49 ∧ z_obj o = none ∧ z_arr o = (0, n)) (h0 : 0 ≤ i) (h1 : i < n) (k : z_G M F u q al st (z_sA S o i v)) : z_G M F u pc al (zI v :: zI i :: zR o :: st) S := by
  intro E p l e R s m args below meth c C H locs ls hW hS hL hst
  subst hq
  have hv : z_in v := z_top hst
  have hi : z_in i := z_top (z_tail hst)
  have he : (z_w E S)[o]? = some (e_ad E o, .inl (e_cy E 0, n, .inl (fun j => Int32.ofInt (S.2.1 o j)))) := by rw [z_wl_get ho.1, z_cell_arr ho.2.1 ho.2.2]; rfl
  refine va_iast C.1 C.2.1 hW.2.1 hW.1 hW.2.2.1 hS o 0 he rfl (z_vin hi h0 h1) hd (fun H1 locs1 hP1 hD1 hS1 => ?_)
  rw [z_clamp hi, z_wl_set ho.1 (z_cell_sA_0 ho.2.1 ho.2.2 h0) z_cell_sA] at hP1 hD1
  exact k E p l e R s m args below meth c C H1 locs1 ls (z_world C hW hP1 hD1 hS1 (z_okS_a hW.2.2.2.2.2 hv)) hS1 hL (z_tail (z_tail (z_tail hst)))
theorem z_bool {v : Int} (h : v = 0 ∨ v = 1) : vp_nar .boolean (Int32.ofInt v) = Int32.ofInt v := by
  rcases h with rfl | rfl <;> decide
theorem g_zast {o n : Nat} {i v : Int} (hd : decode (m_c M) pc = .ok (.bastore, 1)) (hq : pc + 1 = q) (ho : o < 49 ∧ z_obj o = none ∧ z_arr o = (1, n)) (h0 : 0 ≤ i) (h1 : i < n) (hb : v = 0 ∨ v = 1) (k : z_G M F u q al st (z_sA S o i v)) : z_G M F u pc al (zI v :: zI i :: zR o :: st) S := by
  intro E p l e R s m args below meth c C H locs ls hW hS hL hst
  subst hq
  have hv : z_in v := z_top hst
  have hi : z_in i := z_top (z_tail hst)
  have he : (z_w E S)[o]? = some (e_ad E o, .inl (e_cy E 1, n, .inl (fun j => Int32.ofInt (S.2.1 o j)))) := by rw [z_wl_get ho.1, z_cell_arr ho.2.1 ho.2.2]; rfl
  refine va_zast C.1 C.2.1 hW.2.1 hW.1 hW.2.2.1 hS o 1 he rfl (z_vin hi h0 h1) hd (fun H1 locs1 hP1 hD1 hS1 => ?_)
  rw [z_bool hb, z_clamp hi, z_wl_set ho.1 (z_cell_sA_1 ho.2.1 ho.2.2 h0) z_cell_sA] at hP1 hD1
  exact k E p l e R s m args below meth c C H1 locs1 ls (z_world C hW hP1 hD1 hS1 (z_okS_a hW.2.2.2.2.2 hv)) hS1 hL (z_tail (z_tail (z_tail hst)))
theorem g_last {i z : Int} (hd : decode (m_c M) pc = .ok (.lastore, 1)) (hq : pc + 1 = q) (h0 : 0 ≤ i) (h1 : i < 6) (k : z_G M F u q al st (z_sL S i z)) : z_G M F u pc al (zL z :: zI i :: zR 48 :: st) S := by
  intro E p l e R s m args below meth c C H locs ls hW hS hL hst
  subst hq
  have hv : z_inL z := z_top hst
  have hi : z_in i := z_top (z_tail hst)
  have he : (z_w E S)[48]? = some (e_ad E 48, .inl (e_cy E 3, 6, .inr (.inl (fun j => Int64.ofInt (S.2.2 j))))) := by rw [z_wl_get (by omega)]; rfl
  refine va_last C.1 C.2.1 hW.2.1 hW.1 hW.2.2.1 hS 48 3 he rfl (z_vin hi h0 h1) hd (fun H1 locs1 hP1 hD1 hS1 => ?_)
  rw [z_clamp hi, z_wl_set (by omega) (z_cell_sL_at h0) z_cell_sL] at hP1 hD1
  exact k E p l e R s m args below meth c C H1 locs1 ls (z_world C hW hP1 hD1 hS1 (z_okS_l hW.2.2.2.2.2 hv)) hS1 hL (z_tail (z_tail (z_tail hst)))
theorem g_lald {i : Int} (hd : decode (m_c M) pc = .ok (.laload, 1)) (hq : pc + 1 = q) (h0 : 0 ≤ i) (h1 : i < 6) (k : z_G M F u q al (zL (S.2.2 i) :: st) S) : z_G M F u pc al (zI i :: zR 48 :: st) S := by
  intro E p l e R s m args below meth c C H locs ls hW hS hL hst
  subst hq
  have hi : z_in i := z_top hst
  have he : (z_w E S)[48]? = some (e_ad E 48, .inl (e_cy E 3, 6, .inr (.inl (fun j => Int64.ofInt (S.2.2 j))))) := by rw [z_wl_get (by omega)]; rfl
  refine va_lald C.1 C.2.1 hW.2.1 hW.1 48 3 he rfl (i := Int32.ofInt i) (z_vin hi h0 h1) hd ?_
  rw [z_clamp hi, show ((i.toNat : Nat) : Int) = i by omega]
  exact k E p l e R s m args below meth c C H locs ls hW hS hL (z_cons (hW.2.2.2.2.2.2.2 i) (z_tail (z_tail hst)))
-- ends
theorem g_ret {Q : zQ} {z : Int} (hd : decode (m_c M) pc = .ok (.ireturn, 1)) (hr : m_r M = some .int) (hu : u ≤ m_u M) (hQ : Q (.ok (some (zI z))) S) : z_G M (z_F M Q) u pc al [zI z] S := by
  intro E p l e R s m args below meth c C H locs ls hW hS hL hst
  refine W.widen (k := m_u M) (n := 6 * m_u M) (by show 0 + u ≤ _; omega) (by show 0 + 6 * u ≤ _; omega) (vx_ret ?_)
  exact W.iret (v := Int32.ofInt z) C.1 C.2.1 (C.2.2.2.1.trans hr) (fun t ht hw => ⟨⟨some (zI z), S, rfl, hQ, fun v hv => by cases hv; exact z_top hst, by rw [ht]; exact hW.moved hw.alike⟩, by rw [va_F, ht]; exact ⟨hS.1, hS.2.1⟩⟩) hS.2.2 hd C.2.2.2.2.2.2.1
theorem g_retz {Q : zQ} {z : Int} (hd : decode (m_c M) pc = .ok (.ireturn, 1)) (hr : m_r M = some .boolean) (hb : z = 0 ∨ z = 1) (hu : u ≤ m_u M) (hQ : Q (.ok (some (zI z))) S) : z_G M (z_F M Q) u pc al [zI z] S := by
  intro E p l e R s m args below meth c C H locs ls hW hS hL hst
  refine W.widen (k := m_u M) (n := 6 * m_u M) (by show 0 + u ≤ _; omega) (by show 0 + 6 * u ≤ _; omega) (vx_ret ?_)
  exact W.zret (v := Int32.ofInt z) (ty := .boolean) C.1 C.2.1 (C.2.2.2.1.trans hr) (by rcases hb with rfl | rfl <;> decide) (fun t ht hw => ⟨⟨some (zI z), S, rfl, hQ, fun v hv => by cases hv; exact z_top hst, by rw [ht]; exact hW.moved hw.alike⟩, by rw [va_F, ht]; exact ⟨hS.1, hS.2.1⟩⟩) hS.2.2 hd C.2.2.2.2.2.2.1
theorem g_retv {Q : zQ} (hd : decode (m_c M) pc = .ok (.return_, 1)) (hr : m_r M = none) (hu : u ≤ m_u M) (hQ : Q (.ok none) S) : z_G M (z_F M Q) u pc al [] S := by
  intro E p l e R s m args below meth c C H locs ls hW hS hL hst
  refine W.widen (k := m_u M) (n := 6 * m_u M) (by show 0 + u ≤ _; omega) (by show 0 + 6 * u ≤ _; omega) (vx_ret ?_)
  exact W.vret C.1 C.2.1 (C.2.2.2.1.trans hr) (fun t ht hw => ⟨⟨none, S, rfl, hQ, (fun v hv => by cases hv), by rw [ht]; exact hW.moved hw.alike⟩, by rw [va_F, ht]; exact ⟨hS.1, hS.2.1⟩⟩) hS.2.2 hd C.2.2.2.2.2.2.1
theorem g_retL {Q : zQ} {z : Int} (hd : decode (m_c M) pc = .ok (.lreturn, 1)) (hr : m_r M = some .long) (hu : u ≤ m_u M) (hQ : Q (.ok (some (zL z))) S) : z_G M (z_F M Q) u pc al [zL z] S := by
  intro E p l e R s m args below meth c C H locs ls hW hS hL hst
  refine W.widen (k := m_u M) (n := 6 * m_u M) (by show 0 + u ≤ _; omega) (by show 0 + 6 * u ≤ _; omega) (vx_ret ?_)
  exact W.lret (v := Int64.ofInt z) C.1 C.2.1 (C.2.2.2.1.trans hr) (fun t ht hw => ⟨⟨some (zL z), S, rfl, hQ, fun v hv => by cases hv; exact z_top hst, by rw [ht]; exact hW.moved hw.alike⟩, by rw [va_F, ht]; exact ⟨hS.1, hS.2.1⟩⟩) hS.2.2 hd C.2.2.2.2.2.2.1
end
