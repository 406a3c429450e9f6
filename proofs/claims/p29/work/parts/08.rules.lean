/-! ===== RULES: an instruction, a rule ===== -/
theorem z_cons {v : zV} {st : List zV} (hv : z_ok v) (h : ∀ x ∈ st, z_ok x) : ∀ x ∈ v :: st, z_ok x := List.forall_mem_cons.mpr ⟨hv, h⟩
theorem z_top {v : zV} {st : List zV} (h : ∀ x ∈ v :: st, z_ok x) : z_ok v := h v List.mem_cons_self
theorem z_tail {v : zV} {st : List zV} (h : ∀ x ∈ v :: st, z_ok x) : ∀ x ∈ st, z_ok x := fun x hx => h x (List.mem_cons_of_mem _ hx)
def z_pairs (ad : Nat → Nat) (al : List (Option zV)) : List (Nat × Value) := (List.range al.length).filterMap (fun i => (al.getD i none).map (fun v => (i, z_tv ad v)))
theorem z_pairs_mem {ad : Nat → Nat} {al : List (Option zV)} {i : Nat} {v : zV} (h : al[i]? = some (some v)) : (i, z_tv ad v) ∈ z_pairs ad al := by
  unfold z_pairs
  refine List.mem_filterMap.mpr ⟨i, List.mem_range.mpr (List.getElem?_eq_some_iff.mp h).1, ?_⟩
  rw [List.getD_eq_getElem?_getD, h]
  rfl
theorem z_pairs_of {ad : Nat → Nat} {al : List (Option zV)} {q : Nat × Value} (h : q ∈ z_pairs ad al) : ∃ v, al[q.1]? = some (some v) ∧ q.2 = z_tv ad v := by
  obtain ⟨i, hi, he⟩ := List.mem_filterMap.mp h
  have hl := List.mem_range.mp hi
  rw [List.getD_eq_getElem?_getD, List.getElem?_eq_getElem hl] at he
  cases hx : al[i] with
  | none => rw [hx] at he; cases he
  | some v =>
    rw [hx] at he
    cases he
    exact ⟨v, by rw [List.getElem?_eq_getElem hl, hx], rfl⟩
theorem z_cat {ad : Nat → Nat} {v : zV} (h : z_nl v) : (z_tv ad v).category = 1 := by
  rcases v with z | k | z
  · rfl
  · rfl
  · exact h.elim
/-- the locals as the kit's list -/
theorem z_lok.has {ad : Nat → Nat} {nL : Nat} {w : List Nat} {al : List (Option zV)} {ls : Array Slot} (h : z_lok ad nL w al ls) : lv_has ls nL (z_pairs ad al) := by
  obtain ⟨h1, h2, h3, h4⟩ := h
  refine ⟨h1, h2, fun q hq => ?_⟩
  obtain ⟨v, hv, he⟩ := z_pairs_of hq
  rw [he]
  exact (h4 q.1 v hv).1
theorem z_nlb_of {v : zV} (h : z_nlb (some v) = true) : z_nl v := by
  rcases v with z | k | z
  · trivial
  · trivial
  · exact absurd (show false = true from h) (by decide)
theorem z_nwb_of {w : List Nat} {al : List (Option zV)} {i j : Nat} {v : zV} (h : z_nwb w al i = true) (hj : j + 1 = i) (hv : al[j]? = some (some v)) (hn : z_nl v ∨ j ∈ w) : z_nl v := by
  subst hj
  rcases hn with hn | hn
  · exact hn
  · have e : al.getD j none = some v := by rw [List.getD_eq_getElem?_getD, hv]; rfl
    unfold z_nwb at h
    rw [Nat.add_sub_cancel, e] at h
    have hc : w.contains j = true := by simpa using hn
    rw [hc] at h
    refine z_nlb_of ?_
    simpa using h
theorem z_lok.put {ad : Nat → Nat} {nL i : Nat} {w : List Nat} {al : List (Option zV)} {v : zV} {ls ls' : Array Slot} (h : z_lok ad nL w al ls) (hw : z_nwb w al i = true) (hv : z_nl v) (hok : z_ok v)
    (h' : lv_has ls' nL ((i, z_tv ad v) :: (z_pairs ad al).filter (fun q => !(q.1 == i) && !(q.1 + 1 == i && q.2.category == 2)))) : z_lok ad nL w (al.set i (some v)) ls' := by
  obtain ⟨h1, h2, h3, h4⟩ := h
  obtain ⟨a1, a2, a3⟩ := h'
  refine ⟨a1, a2, by rw [List.length_set]; exact h3, fun j w' hj => ?_⟩
  by_cases hji : j = i
  · subst hji
    have hl : j < al.length := by
      have := (List.getElem?_eq_some_iff.mp hj).1
      rw [List.length_set] at this
      exact this
    rw [List.getElem?_set_self hl] at hj
    cases hj
    exact ⟨a3 _ List.mem_cons_self, .inl hv, hok⟩
  · rw [List.getElem?_set_ne (Ne.symm hji)] at hj
    have hw' := h4 j w' hj
    refine ⟨a3 (j, z_tv ad w') (List.mem_cons_of_mem _ (List.mem_filter.mpr ⟨z_pairs_mem hj, ?_⟩)), hw'.2⟩
    by_cases hj1 : j + 1 = i
    · have hc : (z_tv ad w').category = 1 := z_cat (z_nwb_of hw hj1 hj hw'.2.1)
      simp [hji, hc]
    · simp [hji, hj1]
/-- a long is written: two places -/
theorem z_lok.putL {ad : Nat → Nat} {nL i : Nat} {w : List Nat} {al : List (Option zV)} {z : Int} {ls ls' : Array Slot} (h : z_lok ad nL w al ls) (hw : z_nwb w al i = true) (hi : i ∈ w) (hok : z_inL z)
    (h' : lv_has ls' nL ((i, z_tv ad (zL z)) :: (z_pairs ad al).filter (fun q => !(q.1 == i) && (!(q.1 == i + 1) && !(q.1 + 1 == i && q.2.category == 2))))) : z_lok ad nL w ((al.set (i + 1) none).set i (some (zL z))) ls' := by
  obtain ⟨h1, h2, h3, h4⟩ := h
  obtain ⟨a1, a2, a3⟩ := h'
  refine ⟨a1, a2, by rw [List.length_set, List.length_set]; exact h3, fun j w' hj => ?_⟩
  by_cases hji : j = i
  · subst hji
    have hl : j < (al.set (j + 1) none).length := by
      have := (List.getElem?_eq_some_iff.mp hj).1
      rw [List.length_set] at this
      exact this
    rw [List.getElem?_set_self hl] at hj
    cases hj
    exact ⟨a3 _ List.mem_cons_self, .inr hi, hok⟩
  · rw [List.getElem?_set_ne (Ne.symm hji)] at hj
    by_cases hj2 : j = i + 1
    · subst hj2
      have hl : i + 1 < al.length := by
        have := (List.getElem?_eq_some_iff.mp hj).1
        rw [List.length_set] at this
        exact this
      rw [List.getElem?_set_self hl] at hj
      cases hj
    · rw [List.getElem?_set_ne (Ne.symm hj2)] at hj
      have hw' := h4 j w' hj
      refine ⟨a3 (j, z_tv ad w') (List.mem_cons_of_mem _ (List.mem_filter.mpr ⟨z_pairs_mem hj, ?_⟩)), hw'.2⟩
      by_cases hj1 : j + 1 = i
      · have hc : (z_tv ad w').category = 1 := z_cat (z_nwb_of hw hj1 hj hw'.2.1)
        simp [hji, hj2, hc]
      · simp [hji, hj1, hj2]
theorem g_iconst {M : zM} {F : zF} {u pc q : Nat} {al : List (Option zV)} {st : List zV} {S : zS} {n : Int} (hd : decode (m_c M) pc = .ok (.iconst n, 1)) (hq : pc + 1 = q) (hz : z_in n) (k : z_G M F u q al (zI n :: st) S) : z_G M F u pc al st S := by
  intro E p l e R s m args below meth c C H locs ls hW hS hL hst
  subst hq
  refine lv_iconst (v := Int32.ofInt n) C.1 C.2.1 hd rfl ?_
  exact k E p l e R s m args below meth c C H locs ls hW hS hL (z_cons hz hst)
theorem g_bipush {M : zM} {F : zF} {u pc q : Nat} {al : List (Option zV)} {st : List zV} {S : zS} {n : Int} (hd : decode (m_c M) pc = .ok (.bipush n, 2)) (hq : pc + 2 = q) (hz : z_in n) (hv : (Int8.ofInt n).toInt32 = Int32.ofInt n) (k : z_G M F u q al (zI n :: st) S) : z_G M F u pc al st S := by
  intro E p l e R s m args below meth c C H locs ls hW hS hL hst
  subst hq
  refine lv_bipush (v := Int32.ofInt n) C.1 C.2.1 hd hv ?_
  exact k E p l e R s m args below meth c C H locs ls hW hS hL (z_cons hz hst)
theorem g_sipush {M : zM} {F : zF} {u pc q : Nat} {al : List (Option zV)} {st : List zV} {S : zS} {n : Int} (hd : decode (m_c M) pc = .ok (.sipush n, 3)) (hq : pc + 3 = q) (hz : z_in n) (hv : (Int16.ofInt n).toInt32 = Int32.ofInt n) (k : z_G M F u q al (zI n :: st) S) : z_G M F u pc al st S := by
  intro E p l e R s m args below meth c C H locs ls hW hS hL hst
  subst hq
  refine lv_sipush (v := Int32.ofInt n) C.1 C.2.1 hd hv ?_
  exact k E p l e R s m args below meth c C H locs ls hW hS hL (z_cons hz hst)
theorem g_lconst {M : zM} {F : zF} {u pc q : Nat} {al : List (Option zV)} {st : List zV} {S : zS} {n : Fin 2} {z : Int} (hd : decode (m_c M) pc = .ok (.lconst n, 1)) (hq : pc + 1 = q) (hz : z_inL z) (hv : Int64.ofNat (n : Nat) = Int64.ofInt z) (k : z_G M F u q al (zL z :: st) S) : z_G M F u pc al st S := by
  intro E p l e R s m args below meth c C H locs ls hW hS hL hst
  subst hq
  refine lv_lconst (v := Int64.ofInt z) C.1 C.2.1 hd hv ?_
  exact k E p l e R s m args below meth c C H locs ls hW hS hL (z_cons hz hst)
theorem g_iload_n {M : zM} {F : zF} {u pc q : Nat} {al : List (Option zV)} {st : List zV} {S : zS} {n : Fin 4} {i : Nat} {z : Int} (hd : decode (m_c M) pc = .ok (.iload_n n, 1)) (hi : (n : Nat) = i) (hq : pc + 1 = q) (hl : al[i]? = some (some (zI z))) (k : z_G M F u q al (zI z :: st) S) : z_G M F u pc al st S := by
  intro E p l e R s m args below meth c C H locs ls hW hS hL hst
  subst hq
  have h1 := hL.2.2.2 _ _ hl
  refine lv_iload_n C.1 C.2.1 hd hi h1.1 ?_
  exact k E p l e R s m args below meth c C H locs ls hW hS hL (z_cons h1.2.2 hst)
theorem g_iload {M : zM} {F : zF} {u pc q : Nat} {al : List (Option zV)} {st : List zV} {S : zS} {i : Nat} {z : Int} (hd : decode (m_c M) pc = .ok (.iload i, 2)) (hq : pc + 2 = q) (hl : al[i]? = some (some (zI z))) (k : z_G M F u q al (zI z :: st) S) : z_G M F u pc al st S := by
  intro E p l e R s m args below meth c C H locs ls hW hS hL hst
  subst hq
  have h1 := hL.2.2.2 _ _ hl
  refine lv_iload C.1 C.2.1 hd h1.1 ?_
  exact k E p l e R s m args below meth c C H locs ls hW hS hL (z_cons h1.2.2 hst)
theorem g_aload_n {M : zM} {F : zF} {u pc q : Nat} {al : List (Option zV)} {st : List zV} {S : zS} {n : Fin 4} {i : Nat} {z : Nat} (hd : decode (m_c M) pc = .ok (.aload_n n, 1)) (hi : (n : Nat) = i) (hq : pc + 1 = q) (hl : al[i]? = some (some (zR z))) (k : z_G M F u q al (zR z :: st) S) : z_G M F u pc al st S := by
  intro E p l e R s m args below meth c C H locs ls hW hS hL hst
  subst hq
  have h1 := hL.2.2.2 _ _ hl
  refine lv_aload_n C.1 C.2.1 hd hi h1.1 ?_
  exact k E p l e R s m args below meth c C H locs ls hW hS hL (z_cons h1.2.2 hst)
theorem g_aload {M : zM} {F : zF} {u pc q : Nat} {al : List (Option zV)} {st : List zV} {S : zS} {i : Nat} {z : Nat} (hd : decode (m_c M) pc = .ok (.aload i, 2)) (hq : pc + 2 = q) (hl : al[i]? = some (some (zR z))) (k : z_G M F u q al (zR z :: st) S) : z_G M F u pc al st S := by
  intro E p l e R s m args below meth c C H locs ls hW hS hL hst
  subst hq
  have h1 := hL.2.2.2 _ _ hl
  refine lv_aload C.1 C.2.1 hd h1.1 ?_
  exact k E p l e R s m args below meth c C H locs ls hW hS hL (z_cons h1.2.2 hst)
theorem g_istore_n {M : zM} {F : zF} {u pc q : Nat} {al : List (Option zV)} {st : List zV} {S : zS} {n : Fin 4} {i : Nat} {z : Int} (hd : decode (m_c M) pc = .ok (.istore_n n, 1)) (hi : (n : Nat) = i) (hq : pc + 1 = q) (hn : i < m_l M) (k : z_G M F u q (al.set i (some (zI z))) st S) (hw : z_nwb (m_w M) al i = true := by rfl) : z_G M F u pc al (zI z :: st) S := by
  intro E p l e R s m args below meth c C H locs ls hW hS hL hst
  subst hq
  refine lv_istore_n C.1 C.2.1 hd hi hL.has hn rfl (fun ls' hl' => ?_)
  exact k E p l e R s m args below meth c C H locs ls' hW hS (hL.put hw trivial (z_top hst) hl') (z_tail hst)
theorem g_istore {M : zM} {F : zF} {u pc q : Nat} {al : List (Option zV)} {st : List zV} {S : zS} {i : Nat} {z : Int} (hd : decode (m_c M) pc = .ok (.istore i, 2)) (hq : pc + 2 = q) (hn : i < m_l M) (k : z_G M F u q (al.set i (some (zI z))) st S) (hw : z_nwb (m_w M) al i = true := by rfl) : z_G M F u pc al (zI z :: st) S := by
  intro E p l e R s m args below meth c C H locs ls hW hS hL hst
  subst hq
  refine lv_istore C.1 C.2.1 hd hL.has hn rfl (fun ls' hl' => ?_)
  exact k E p l e R s m args below meth c C H locs ls' hW hS (hL.put hw trivial (z_top hst) hl') (z_tail hst)
theorem g_astore_n {M : zM} {F : zF} {u pc q : Nat} {al : List (Option zV)} {st : List zV} {S : zS} {n : Fin 4} {i : Nat} {z : Nat} (hd : decode (m_c M) pc = .ok (.astore_n n, 1)) (hi : (n : Nat) = i) (hq : pc + 1 = q) (hn : i < m_l M) (k : z_G M F u q (al.set i (some (zR z))) st S) (hw : z_nwb (m_w M) al i = true := by rfl) : z_G M F u pc al (zR z :: st) S := by
  intro E p l e R s m args below meth c C H locs ls hW hS hL hst
  subst hq
  refine lv_astore_n C.1 C.2.1 hd hi hL.has hn rfl (fun ls' hl' => ?_)
  exact k E p l e R s m args below meth c C H locs ls' hW hS (hL.put hw trivial (z_top hst) hl') (z_tail hst)
theorem g_astore {M : zM} {F : zF} {u pc q : Nat} {al : List (Option zV)} {st : List zV} {S : zS} {i : Nat} {z : Nat} (hd : decode (m_c M) pc = .ok (.astore i, 2)) (hq : pc + 2 = q) (hn : i < m_l M) (k : z_G M F u q (al.set i (some (zR z))) st S) (hw : z_nwb (m_w M) al i = true := by rfl) : z_G M F u pc al (zR z :: st) S := by
  intro E p l e R s m args below meth c C H locs ls hW hS hL hst
  subst hq
  refine lv_astore C.1 C.2.1 hd hL.has hn rfl (fun ls' hl' => ?_)
  exact k E p l e R s m args below meth c C H locs ls' hW hS (hL.put hw trivial (z_top hst) hl') (z_tail hst)
theorem g_iinc {M : zM} {F : zF} {u pc q : Nat} {al : List (Option zV)} {st : List zV} {S : zS} {i : Nat} {n z : Int} (hd : decode (m_c M) pc = .ok (.iinc i n, 3)) (hq : pc + 3 = q) (hl : al[i]? = some (some (zI z))) (hz : z_in (z + n)) (k : z_G M F u q (al.set i (some (zI (z + n)))) st S) (hw : z_nwb (m_w M) al i = true := by rfl) : z_G M F u pc al st S := by
  intro E p l e R s m args below meth c C H locs ls hW hS hL hst
  subst hq
  have h1 := hL.2.2.2 _ _ hl
  have hn : i < m_l M := by rw [← hL.2.2.1]; exact (List.getElem?_eq_some_iff.mp hl).1
  obtain ⟨j, hj⟩ := List.getElem?_of_mem (z_pairs_mem (ad := e_ad E) hl)
  refine lv_iinc (v := Int32.ofInt (z + n)) C.1 C.2.1 hd hL.has hj z_add hn rfl (fun ls' hl' => ?_)
  exact k E p l e R s m args below meth c C H locs ls' hW hS (hL.put hw trivial hz hl') hst
theorem g_iadd {M : zM} {F : zF} {u pc q : Nat} {al : List (Option zV)} {st : List zV} {S : zS} {x y : Int} (hd : decode (m_c M) pc = .ok (.iadd, 1)) (hq : pc + 1 = q) (hz : z_in (x + y)) (k : z_G M F u q al (zI (x + y) :: st) S) : z_G M F u pc al (zI y :: zI x :: st) S := by
  intro E p l e R s m args below meth c C H locs ls hW hS hL hst
  subst hq
  refine lv_iadd C.1 C.2.1 hd ?_
  rw [z_add]
  exact k E p l e R s m args below meth c C H locs ls hW hS hL (z_cons hz (z_tail (z_tail hst)))
theorem g_isub {M : zM} {F : zF} {u pc q : Nat} {al : List (Option zV)} {st : List zV} {S : zS} {x y : Int} (hd : decode (m_c M) pc = .ok (.isub, 1)) (hq : pc + 1 = q) (hz : z_in (x - y)) (k : z_G M F u q al (zI (x - y) :: st) S) : z_G M F u pc al (zI y :: zI x :: st) S := by
  intro E p l e R s m args below meth c C H locs ls hW hS hL hst
  subst hq
  refine lv_isub C.1 C.2.1 hd ?_
  rw [z_sub]
  exact k E p l e R s m args below meth c C H locs ls hW hS hL (z_cons hz (z_tail (z_tail hst)))
theorem g_imul {M : zM} {F : zF} {u pc q : Nat} {al : List (Option zV)} {st : List zV} {S : zS} {x y : Int} (hd : decode (m_c M) pc = .ok (.imul, 1)) (hq : pc + 1 = q) (hz : z_in (x * y)) (k : z_G M F u q al (zI (x * y) :: st) S) : z_G M F u pc al (zI y :: zI x :: st) S := by
  intro E p l e R s m args below meth c C H locs ls hW hS hL hst
  subst hq
  refine lv_imul C.1 C.2.1 hd ?_
  rw [z_mul]
  exact k E p l e R s m args below meth c C H locs ls hW hS hL (z_cons hz (z_tail (z_tail hst)))
theorem g_iaddw {M : zM} {F : zF} {u pc q : Nat} {al : List (Option zV)} {st : List zV} {S : zS} {x y : Int} (hd : decode (m_c M) pc = .ok (.iadd, 1)) (hq : pc + 1 = q) (k : z_G M F u q al (zI ((x + y).bmod (2 ^ 32)) :: st) S) : z_G M F u pc al (zI y :: zI x :: st) S := by
  intro E p l e R s m args below meth c C H locs ls hW hS hL hst
  subst hq
  refine lv_iadd C.1 C.2.1 hd ?_
  rw [z_add]
  have e1 : Int32.ofInt (x + y) = Int32.ofInt ((x + y).bmod (2 ^ 32)) := by
    apply Int32.toInt_inj.mp
    rw [Int32.toInt_ofInt, Int32.toInt_ofInt]
    exact (Int.bmod_bmod (x := x + y) (m := 2 ^ 32)).symm
  have hz : z_in ((x + y).bmod (2 ^ 32)) := by
    have h1 := z_rng (Int32.ofInt (x + y))
    rw [Int32.toInt_ofInt] at h1
    exact h1
  rw [e1]
  exact k E p l e R s m args below meth c C H locs ls hW hS hL (z_cons hz (z_tail (z_tail hst)))
theorem g_isubw {M : zM} {F : zF} {u pc q : Nat} {al : List (Option zV)} {st : List zV} {S : zS} {x y : Int} (hd : decode (m_c M) pc = .ok (.isub, 1)) (hq : pc + 1 = q) (k : z_G M F u q al (zI ((x - y).bmod (2 ^ 32)) :: st) S) : z_G M F u pc al (zI y :: zI x :: st) S := by
  intro E p l e R s m args below meth c C H locs ls hW hS hL hst
  subst hq
  refine lv_isub C.1 C.2.1 hd ?_
  rw [z_sub]
  have e1 : Int32.ofInt (x - y) = Int32.ofInt ((x - y).bmod (2 ^ 32)) := by
    apply Int32.toInt_inj.mp
    rw [Int32.toInt_ofInt, Int32.toInt_ofInt]
    exact (Int.bmod_bmod (x := x - y) (m := 2 ^ 32)).symm
  have hz : z_in ((x - y).bmod (2 ^ 32)) := by
    have h1 := z_rng (Int32.ofInt (x - y))
    rw [Int32.toInt_ofInt] at h1
    exact h1
  rw [e1]
  exact k E p l e R s m args below meth c C H locs ls hW hS hL (z_cons hz (z_tail (z_tail hst)))
theorem g_idiv {M : zM} {F : zF} {u pc q : Nat} {al : List (Option zV)} {st : List zV} {S : zS} {x y : Int} (hd : decode (m_c M) pc = .ok (.idiv, 1)) (hq : pc + 1 = q) (h0 : 0 ≤ x) (h1 : 0 < y) (k : z_G M F u q al (zI (x / y) :: st) S) : z_G M F u pc al (zI y :: zI x :: st) S := by
  intro E p l e R s m args below meth c C H locs ls hW hS hL hst
  subst hq
  have hy : z_in y := z_top hst
  have hx : z_in x := z_top (z_tail hst)
  refine lv_idiv C.1 C.2.1 hd (z_nz hy h1) ?_
  have hz : z_in (x / y) := by
    have a1 := Int.ediv_nonneg h0 (Int.le_of_lt h1)
    have a2 := Int.ediv_le_self y h0
    have a3 := Int.emod_nonneg x (by omega : y ≠ 0)
    have a4 := Int.emod_lt_of_pos x h1
    obtain ⟨b1, b2⟩ := hx
    obtain ⟨b3, b4⟩ := hy
    constructor <;> omega
  rw [z_div hx hy h0 h1]
  exact k E p l e R s m args below meth c C H locs ls hW hS hL (z_cons hz (z_tail (z_tail hst)))
theorem g_irem {M : zM} {F : zF} {u pc q : Nat} {al : List (Option zV)} {st : List zV} {S : zS} {x y : Int} (hd : decode (m_c M) pc = .ok (.irem, 1)) (hq : pc + 1 = q) (h0 : 0 ≤ x) (h1 : 0 < y) (k : z_G M F u q al (zI (x % y) :: st) S) : z_G M F u pc al (zI y :: zI x :: st) S := by
  intro E p l e R s m args below meth c C H locs ls hW hS hL hst
  subst hq
  have hy : z_in y := z_top hst
  have hx : z_in x := z_top (z_tail hst)
  refine lv_irem C.1 C.2.1 hd (z_nz hy h1) ?_
  have hz : z_in (x % y) := by
    have a1 := Int.ediv_nonneg h0 (Int.le_of_lt h1)
    have a2 := Int.ediv_le_self y h0
    have a3 := Int.emod_nonneg x (by omega : y ≠ 0)
    have a4 := Int.emod_lt_of_pos x h1
    obtain ⟨b1, b2⟩ := hx
    obtain ⟨b3, b4⟩ := hy
    constructor <;> omega
  rw [z_rem hx hy h0 h1]
  exact k E p l e R s m args below meth c C H locs ls hW hS hL (z_cons hz (z_tail (z_tail hst)))
theorem g_iand31 {M : zM} {F : zF} {u pc q : Nat} {al : List (Option zV)} {st : List zV} {S : zS} {x : Int} (hd : decode (m_c M) pc = .ok (.iand, 1)) (hq : pc + 1 = q) (k : ∀ z : Int, 0 ≤ z → z ≤ 31 → z_G M F u q al (zI z :: st) S) : z_G M F u pc al (zI 31 :: zI x :: st) S := by
  intro E p l e R s m args below meth c C H locs ls hW hS hL hst
  subst hq
  refine lv_iand C.1 C.2.1 hd ?_
  obtain ⟨j, hj, e1⟩ := pk_andE (Int32.ofInt x) (m := Int32.ofInt 31) 5 (by decide)
  rw [e1]
  have e2 : nI j = Int32.ofInt (j : Int) := (Int32.ofInt_eq_ofNat (n := j)).symm
  rw [e2]
  exact k (j : Int) (by omega) (by omega) E p l e R s m args below meth c C H locs ls hW hS hL (z_cons ⟨by omega, by omega⟩ (z_tail (z_tail hst)))
theorem g_dup {M : zM} {F : zF} {u pc q : Nat} {al : List (Option zV)} {st : List zV} {S : zS} {v : zV} (hd : decode (m_c M) pc = .ok (.dup, 1)) (hq : pc + 1 = q) (hv : z_nl v) (k : z_G M F u q al (v :: v :: st) S) : z_G M F u pc al (v :: st) S := by
  intro E p l e R s m args below meth c C H locs ls hW hS hL hst
  subst hq
  refine lv_dup C.1 C.2.1 hd (z_cat hv) ?_
  exact k E p l e R s m args below meth c C H locs ls hW hS hL (z_cons (z_top hst) hst)
theorem g_pop {M : zM} {F : zF} {u pc q : Nat} {al : List (Option zV)} {st : List zV} {S : zS} {v : zV} (hd : decode (m_c M) pc = .ok (.pop, 1)) (hq : pc + 1 = q) (hv : z_nl v) (k : z_G M F u q al st S) : z_G M F u pc al (v :: st) S := by
  intro E p l e R s m args below meth c C H locs ls hW hS hL hst
  subst hq
  refine lv_pop C.1 C.2.1 hd (z_cat hv) ?_
  exact k E p l e R s m args below meth c C H locs ls hW hS hL (z_tail hst)
theorem g_dup2 {M : zM} {F : zF} {u pc q : Nat} {al : List (Option zV)} {st : List zV} {S : zS} {v w : zV} (hd : decode (m_c M) pc = .ok (.dup2, 1)) (hq : pc + 1 = q) (hv : z_nl v) (hw : z_nl w) (k : z_G M F u q al (v :: w :: v :: w :: st) S) : z_G M F u pc al (v :: w :: st) S := by
  intro E p l e R s m args below meth c C H locs ls hW hS hL hst
  subst hq
  refine lv_dup2_11 C.1 C.2.1 hd (z_cat hv) (z_cat hw) ?_
  exact k E p l e R s m args below meth c C H locs ls hW hS hL (z_cons (z_top hst) (z_cons (z_top (z_tail hst)) hst))
theorem g_i2l {M : zM} {F : zF} {u pc q : Nat} {al : List (Option zV)} {st : List zV} {S : zS} {x : Int} (hd : decode (m_c M) pc = .ok (.i2l, 1)) (hq : pc + 1 = q) (k : z_G M F u q al (zL x :: st) S) : z_G M F u pc al (zI x :: st) S := by
  intro E p l e R s m args below meth c C H locs ls hW hS hL hst
  subst hq
  have hx : z_in x := z_top hst
  refine lv_i2l C.1 C.2.1 hd (z_i2l hx) ?_
  exact k E p l e R s m args below meth c C H locs ls hW hS hL (z_cons (show z_inL x from ⟨by have := hx.1; omega, by have := hx.2; omega⟩) (z_tail hst))
theorem g_lcmp {M : zM} {F : zF} {u pc q : Nat} {al : List (Option zV)} {st : List zV} {S : zS} {x y : Int} (hd : decode (m_c M) pc = .ok (.lcmp, 1)) (hq : pc + 1 = q) (k : ∀ z : Int, (z = 0 ↔ x = y) → z_G M F u q al (zI z :: st) S) : z_G M F u pc al (zL y :: zL x :: st) S := by
  intro E p l e R s m args below meth c C H locs ls hW hS hL hst
  subst hq
  have hy : z_inL y := z_top hst
  have hx : z_inL x := z_top (z_tail hst)
  refine W.lcmp C.1 C.2.1 hd ?_
  have e0 : (Int64.ofInt x = Int64.ofInt y) ↔ x = y := by rw [← Int64.toInt_inj, z_toL hx, z_toL hy]
  have e1 : (Int64.ofInt y < Int64.ofInt x) ↔ y < x := by rw [Int64.lt_iff_toInt_lt, z_toL hx, z_toL hy]
  have hz : ∃ z : Int, lg_cmp (Int64.ofInt x) (Int64.ofInt y) = Int32.ofInt z ∧ (z = 0 ↔ x = y) ∧ z_in z := by
    unfold lg_cmp
    by_cases h1 : Int64.ofInt x > Int64.ofInt y
    · rw [if_pos h1]
      have := e1.mp h1
      exact ⟨1, rfl, by omega, by constructor <;> omega⟩
    · rw [if_neg h1]
      by_cases h2 : Int64.ofInt x = Int64.ofInt y
      · rw [if_pos h2]
        have := e0.mp h2
        exact ⟨0, rfl, by omega, by constructor <;> omega⟩
      · rw [if_neg h2]
        have : ¬ x = y := fun h => h2 (e0.mpr h)
        exact ⟨-1, rfl, by omega, by constructor <;> omega⟩
  obtain ⟨z, h1, h2, h3⟩ := hz
  rw [h1]
  exact k z h2 E p l e R s m args below meth c C H locs ls hW hS hL (z_cons h3 (z_tail (z_tail hst)))
theorem g_goto {M : zM} {F : zF} {u pc q : Nat} {al : List (Option zV)} {st : List zV} {S : zS} {off : Int} {t : Nat} (hd : decode (m_c M) pc = .ok (.goto off, 3)) (ht : (pc : Int) + off = (t : Int)) (k : z_G M F u t al st S) : z_G M F u pc al st S := by
  intro E p l e R s m args below meth c C H locs ls hW hS hL hst
  refine lv_goto C.1 C.2.1 hd ht ?_
  exact k E p l e R s m args below meth c C H locs ls hW hS hL hst
theorem g_icmp_eq {M : zM} {F : zF} {u pc q : Nat} {al : List (Option zV)} {st : List zV} {S : zS} {x y off : Int} {t : Nat} (hd : decode (m_c M) pc = .ok (.if_icmp .eq off, 3)) (ht : (pc : Int) + off = (t : Int)) (hq : pc + 3 = q) (kt : x = y → z_G M F u t al st S) (kf : ¬ x = y → z_G M F u q al st S) : z_G M F u pc al (zI y :: zI x :: st) S := by
  intro E p l e R s m args below meth c C H locs ls hW hS hL hst
  subst hq
  have hy : z_in y := z_top hst
  have hx : z_in x := z_top (z_tail hst)
  refine lv_icmp_eq (tgt := t) C.1 C.2.1 hd ht (fun h => ?_) (fun h => ?_)
  · refine kt ?_ E p l e R s m args below meth c C H locs ls hW hS hL (z_tail (z_tail hst))
    simp only [ge_iff_le, gt_iff_lt, ne_eq, z_eq hx hy, z_lt hx hy, z_le hx hy, z_lt hy hx, z_le hy hx] at h
    omega
  · refine kf ?_ E p l e R s m args below meth c C H locs ls hW hS hL (z_tail (z_tail hst))
    simp only [ge_iff_le, gt_iff_lt, ne_eq, z_eq hx hy, z_lt hx hy, z_le hx hy, z_lt hy hx, z_le hy hx] at h
    omega
theorem g_if_eq {M : zM} {F : zF} {u pc q : Nat} {al : List (Option zV)} {st : List zV} {S : zS} {x off : Int} {t : Nat} (hd : decode (m_c M) pc = .ok (.ifCond .eq off, 3)) (ht : (pc : Int) + off = (t : Int)) (hq : pc + 3 = q) (kt : x = 0 → z_G M F u t al st S) (kf : ¬ x = 0 → z_G M F u q al st S) : z_G M F u pc al (zI x :: st) S := by
  intro E p l e R s m args below meth c C H locs ls hW hS hL hst
  subst hq
  have hx : z_in x := z_top hst
  have hy : z_in 0 := by constructor <;> omega
  refine lv_if_eq (tgt := t) C.1 C.2.1 hd ht (fun h => ?_) (fun h => ?_)
  · refine kt ?_ E p l e R s m args below meth c C H locs ls hW hS hL (z_tail hst)
    rw [show (0 : Int32) = Int32.ofInt 0 from rfl] at h
    simp only [ge_iff_le, gt_iff_lt, ne_eq, z_eq hx hy, z_lt hx hy, z_le hx hy, z_lt hy hx, z_le hy hx] at h
    omega
  · refine kf ?_ E p l e R s m args below meth c C H locs ls hW hS hL (z_tail hst)
    rw [show (0 : Int32) = Int32.ofInt 0 from rfl] at h
    simp only [ge_iff_le, gt_iff_lt, ne_eq, z_eq hx hy, z_lt hx hy, z_le hx hy, z_lt hy hx, z_le hy hx] at h
    omega
theorem g_icmp_ne {M : zM} {F : zF} {u pc q : Nat} {al : List (Option zV)} {st : List zV} {S : zS} {x y off : Int} {t : Nat} (hd : decode (m_c M) pc = .ok (.if_icmp .ne off, 3)) (ht : (pc : Int) + off = (t : Int)) (hq : pc + 3 = q) (kt : ¬ x = y → z_G M F u t al st S) (kf : x = y → z_G M F u q al st S) : z_G M F u pc al (zI y :: zI x :: st) S := by
  intro E p l e R s m args below meth c C H locs ls hW hS hL hst
  subst hq
  have hy : z_in y := z_top hst
  have hx : z_in x := z_top (z_tail hst)
  refine lv_icmp_ne (tgt := t) C.1 C.2.1 hd ht (fun h => ?_) (fun h => ?_)
  · refine kt ?_ E p l e R s m args below meth c C H locs ls hW hS hL (z_tail (z_tail hst))
    simp only [ge_iff_le, gt_iff_lt, ne_eq, z_eq hx hy, z_lt hx hy, z_le hx hy, z_lt hy hx, z_le hy hx] at h
    omega
  · refine kf ?_ E p l e R s m args below meth c C H locs ls hW hS hL (z_tail (z_tail hst))
    simp only [ge_iff_le, gt_iff_lt, ne_eq, z_eq hx hy, z_lt hx hy, z_le hx hy, z_lt hy hx, z_le hy hx] at h
    omega
theorem g_if_ne {M : zM} {F : zF} {u pc q : Nat} {al : List (Option zV)} {st : List zV} {S : zS} {x off : Int} {t : Nat} (hd : decode (m_c M) pc = .ok (.ifCond .ne off, 3)) (ht : (pc : Int) + off = (t : Int)) (hq : pc + 3 = q) (kt : ¬ x = 0 → z_G M F u t al st S) (kf : x = 0 → z_G M F u q al st S) : z_G M F u pc al (zI x :: st) S := by
  intro E p l e R s m args below meth c C H locs ls hW hS hL hst
  subst hq
  have hx : z_in x := z_top hst
  have hy : z_in 0 := by constructor <;> omega
  refine lv_if_ne (tgt := t) C.1 C.2.1 hd ht (fun h => ?_) (fun h => ?_)
  · refine kt ?_ E p l e R s m args below meth c C H locs ls hW hS hL (z_tail hst)
    rw [show (0 : Int32) = Int32.ofInt 0 from rfl] at h
    simp only [ge_iff_le, gt_iff_lt, ne_eq, z_eq hx hy, z_lt hx hy, z_le hx hy, z_lt hy hx, z_le hy hx] at h
    omega
  · refine kf ?_ E p l e R s m args below meth c C H locs ls hW hS hL (z_tail hst)
    rw [show (0 : Int32) = Int32.ofInt 0 from rfl] at h
    simp only [ge_iff_le, gt_iff_lt, ne_eq, z_eq hx hy, z_lt hx hy, z_le hx hy, z_lt hy hx, z_le hy hx] at h
    omega
theorem g_icmp_lt {M : zM} {F : zF} {u pc q : Nat} {al : List (Option zV)} {st : List zV} {S : zS} {x y off : Int} {t : Nat} (hd : decode (m_c M) pc = .ok (.if_icmp .lt off, 3)) (ht : (pc : Int) + off = (t : Int)) (hq : pc + 3 = q) (kt : x < y → z_G M F u t al st S) (kf : y ≤ x → z_G M F u q al st S) : z_G M F u pc al (zI y :: zI x :: st) S := by
  intro E p l e R s m args below meth c C H locs ls hW hS hL hst
  subst hq
  have hy : z_in y := z_top hst
  have hx : z_in x := z_top (z_tail hst)
  refine lv_icmp_lt (tgt := t) C.1 C.2.1 hd ht (fun h => ?_) (fun h => ?_)
  · refine kt ?_ E p l e R s m args below meth c C H locs ls hW hS hL (z_tail (z_tail hst))
    simp only [ge_iff_le, gt_iff_lt, ne_eq, z_eq hx hy, z_lt hx hy, z_le hx hy, z_lt hy hx, z_le hy hx] at h
    omega
  · refine kf ?_ E p l e R s m args below meth c C H locs ls hW hS hL (z_tail (z_tail hst))
    simp only [ge_iff_le, gt_iff_lt, ne_eq, z_eq hx hy, z_lt hx hy, z_le hx hy, z_lt hy hx, z_le hy hx] at h
    omega
theorem g_if_lt {M : zM} {F : zF} {u pc q : Nat} {al : List (Option zV)} {st : List zV} {S : zS} {x off : Int} {t : Nat} (hd : decode (m_c M) pc = .ok (.ifCond .lt off, 3)) (ht : (pc : Int) + off = (t : Int)) (hq : pc + 3 = q) (kt : x < 0 → z_G M F u t al st S) (kf : 0 ≤ x → z_G M F u q al st S) : z_G M F u pc al (zI x :: st) S := by
  intro E p l e R s m args below meth c C H locs ls hW hS hL hst
  subst hq
  have hx : z_in x := z_top hst
  have hy : z_in 0 := by constructor <;> omega
  refine lv_if_lt (tgt := t) C.1 C.2.1 hd ht (fun h => ?_) (fun h => ?_)
  · refine kt ?_ E p l e R s m args below meth c C H locs ls hW hS hL (z_tail hst)
    rw [show (0 : Int32) = Int32.ofInt 0 from rfl] at h
    simp only [ge_iff_le, gt_iff_lt, ne_eq, z_eq hx hy, z_lt hx hy, z_le hx hy, z_lt hy hx, z_le hy hx] at h
    omega
  · refine kf ?_ E p l e R s m args below meth c C H locs ls hW hS hL (z_tail hst)
    rw [show (0 : Int32) = Int32.ofInt 0 from rfl] at h
    simp only [ge_iff_le, gt_iff_lt, ne_eq, z_eq hx hy, z_lt hx hy, z_le hx hy, z_lt hy hx, z_le hy hx] at h
    omega
theorem g_icmp_ge {M : zM} {F : zF} {u pc q : Nat} {al : List (Option zV)} {st : List zV} {S : zS} {x y off : Int} {t : Nat} (hd : decode (m_c M) pc = .ok (.if_icmp .ge off, 3)) (ht : (pc : Int) + off = (t : Int)) (hq : pc + 3 = q) (kt : y ≤ x → z_G M F u t al st S) (kf : x < y → z_G M F u q al st S) : z_G M F u pc al (zI y :: zI x :: st) S := by
  intro E p l e R s m args below meth c C H locs ls hW hS hL hst
  subst hq
  have hy : z_in y := z_top hst
  have hx : z_in x := z_top (z_tail hst)
  refine lv_icmp_ge (tgt := t) C.1 C.2.1 hd ht (fun h => ?_) (fun h => ?_)
  · refine kt ?_ E p l e R s m args below meth c C H locs ls hW hS hL (z_tail (z_tail hst))
    simp only [ge_iff_le, gt_iff_lt, ne_eq, z_eq hx hy, z_lt hx hy, z_le hx hy, z_lt hy hx, z_le hy hx] at h
    omega
  · refine kf ?_ E p l e R s m args below meth c C H locs ls hW hS hL (z_tail (z_tail hst))
    simp only [ge_iff_le, gt_iff_lt, ne_eq, z_eq hx hy, z_lt hx hy, z_le hx hy, z_lt hy hx, z_le hy hx] at h
    omega
theorem g_if_ge {M : zM} {F : zF} {u pc q : Nat} {al : List (Option zV)} {st : List zV} {S : zS} {x off : Int} {t : Nat} (hd : decode (m_c M) pc = .ok (.ifCond .ge off, 3)) (ht : (pc : Int) + off = (t : Int)) (hq : pc + 3 = q) (kt : 0 ≤ x → z_G M F u t al st S) (kf : x < 0 → z_G M F u q al st S) : z_G M F u pc al (zI x :: st) S := by
  intro E p l e R s m args below meth c C H locs ls hW hS hL hst
  subst hq
  have hx : z_in x := z_top hst
  have hy : z_in 0 := by constructor <;> omega
  refine lv_if_ge (tgt := t) C.1 C.2.1 hd ht (fun h => ?_) (fun h => ?_)
  · refine kt ?_ E p l e R s m args below meth c C H locs ls hW hS hL (z_tail hst)
    rw [show (0 : Int32) = Int32.ofInt 0 from rfl] at h
    simp only [ge_iff_le, gt_iff_lt, ne_eq, z_eq hx hy, z_lt hx hy, z_le hx hy, z_lt hy hx, z_le hy hx] at h
    omega
  · refine kf ?_ E p l e R s m args below meth c C H locs ls hW hS hL (z_tail hst)
    rw [show (0 : Int32) = Int32.ofInt 0 from rfl] at h
    simp only [ge_iff_le, gt_iff_lt, ne_eq, z_eq hx hy, z_lt hx hy, z_le hx hy, z_lt hy hx, z_le hy hx] at h
    omega
theorem g_icmp_gt {M : zM} {F : zF} {u pc q : Nat} {al : List (Option zV)} {st : List zV} {S : zS} {x y off : Int} {t : Nat} (hd : decode (m_c M) pc = .ok (.if_icmp .gt off, 3)) (ht : (pc : Int) + off = (t : Int)) (hq : pc + 3 = q) (kt : y < x → z_G M F u t al st S) (kf : x ≤ y → z_G M F u q al st S) : z_G M F u pc al (zI y :: zI x :: st) S := by
  intro E p l e R s m args below meth c C H locs ls hW hS hL hst
  subst hq
  have hy : z_in y := z_top hst
  have hx : z_in x := z_top (z_tail hst)
  refine lv_icmp_gt (tgt := t) C.1 C.2.1 hd ht (fun h => ?_) (fun h => ?_)
  · refine kt ?_ E p l e R s m args below meth c C H locs ls hW hS hL (z_tail (z_tail hst))
    simp only [ge_iff_le, gt_iff_lt, ne_eq, z_eq hx hy, z_lt hx hy, z_le hx hy, z_lt hy hx, z_le hy hx] at h
    omega
  · refine kf ?_ E p l e R s m args below meth c C H locs ls hW hS hL (z_tail (z_tail hst))
    simp only [ge_iff_le, gt_iff_lt, ne_eq, z_eq hx hy, z_lt hx hy, z_le hx hy, z_lt hy hx, z_le hy hx] at h
    omega
theorem g_if_gt {M : zM} {F : zF} {u pc q : Nat} {al : List (Option zV)} {st : List zV} {S : zS} {x off : Int} {t : Nat} (hd : decode (m_c M) pc = .ok (.ifCond .gt off, 3)) (ht : (pc : Int) + off = (t : Int)) (hq : pc + 3 = q) (kt : 0 < x → z_G M F u t al st S) (kf : x ≤ 0 → z_G M F u q al st S) : z_G M F u pc al (zI x :: st) S := by
  intro E p l e R s m args below meth c C H locs ls hW hS hL hst
  subst hq
  have hx : z_in x := z_top hst
  have hy : z_in 0 := by constructor <;> omega
  refine lv_if_gt (tgt := t) C.1 C.2.1 hd ht (fun h => ?_) (fun h => ?_)
  · refine kt ?_ E p l e R s m args below meth c C H locs ls hW hS hL (z_tail hst)
    rw [show (0 : Int32) = Int32.ofInt 0 from rfl] at h
    simp only [ge_iff_le, gt_iff_lt, ne_eq, z_eq hx hy, z_lt hx hy, z_le hx hy, z_lt hy hx, z_le hy hx] at h
    omega
  · refine kf ?_ E p l e R s m args below meth c C H locs ls hW hS hL (z_tail hst)
    rw [show (0 : Int32) = Int32.ofInt 0 from rfl] at h
    simp only [ge_iff_le, gt_iff_lt, ne_eq, z_eq hx hy, z_lt hx hy, z_le hx hy, z_lt hy hx, z_le hy hx] at h
    omega
theorem g_icmp_le {M : zM} {F : zF} {u pc q : Nat} {al : List (Option zV)} {st : List zV} {S : zS} {x y off : Int} {t : Nat} (hd : decode (m_c M) pc = .ok (.if_icmp .le off, 3)) (ht : (pc : Int) + off = (t : Int)) (hq : pc + 3 = q) (kt : x ≤ y → z_G M F u t al st S) (kf : y < x → z_G M F u q al st S) : z_G M F u pc al (zI y :: zI x :: st) S := by
  intro E p l e R s m args below meth c C H locs ls hW hS hL hst
  subst hq
  have hy : z_in y := z_top hst
  have hx : z_in x := z_top (z_tail hst)
  refine lv_icmp_le (tgt := t) C.1 C.2.1 hd ht (fun h => ?_) (fun h => ?_)
  · refine kt ?_ E p l e R s m args below meth c C H locs ls hW hS hL (z_tail (z_tail hst))
    simp only [ge_iff_le, gt_iff_lt, ne_eq, z_eq hx hy, z_lt hx hy, z_le hx hy, z_lt hy hx, z_le hy hx] at h
    omega
  · refine kf ?_ E p l e R s m args below meth c C H locs ls hW hS hL (z_tail (z_tail hst))
    simp only [ge_iff_le, gt_iff_lt, ne_eq, z_eq hx hy, z_lt hx hy, z_le hx hy, z_lt hy hx, z_le hy hx] at h
    omega
theorem g_if_le {M : zM} {F : zF} {u pc q : Nat} {al : List (Option zV)} {st : List zV} {S : zS} {x off : Int} {t : Nat} (hd : decode (m_c M) pc = .ok (.ifCond .le off, 3)) (ht : (pc : Int) + off = (t : Int)) (hq : pc + 3 = q) (kt : x ≤ 0 → z_G M F u t al st S) (kf : 0 < x → z_G M F u q al st S) : z_G M F u pc al (zI x :: st) S := by
  intro E p l e R s m args below meth c C H locs ls hW hS hL hst
  subst hq
  have hx : z_in x := z_top hst
  have hy : z_in 0 := by constructor <;> omega
  refine lv_if_le (tgt := t) C.1 C.2.1 hd ht (fun h => ?_) (fun h => ?_)
  · refine kt ?_ E p l e R s m args below meth c C H locs ls hW hS hL (z_tail hst)
    rw [show (0 : Int32) = Int32.ofInt 0 from rfl] at h
    simp only [ge_iff_le, gt_iff_lt, ne_eq, z_eq hx hy, z_lt hx hy, z_le hx hy, z_lt hy hx, z_le hy hx] at h
    omega
  · refine kf ?_ E p l e R s m args below meth c C H locs ls hW hS hL (z_tail hst)
    rw [show (0 : Int32) = Int32.ofInt 0 from rfl] at h
    simp only [ge_iff_le, gt_iff_lt, ne_eq, z_eq hx hy, z_lt hx hy, z_le hx hy, z_lt hy hx, z_le hy hx] at h
    omega
theorem g_swOut {M : zM} {F : zF} {u pc q : Nat} {al : List (Option zV)} {st : List zV} {S : zS} {x dflt lo hi : Int} {offs : Array Int} {len t : Nat} (hd : decode (m_c M) pc = .ok (.tableswitch dflt lo hi offs, len)) (h : x < lo ∨ hi < x) (ht : (pc : Int) + dflt = (t : Int)) (k : z_G M F u t al st S) : z_G M F u pc al (zI x :: st) S := by
  intro E p l e R s m args below meth c C H locs ls hW hS hL hst
  have hx : z_in x := z_top hst
  refine lv_tableOut C.1 C.2.1 hd (by rw [z_toI hx]; exact h) ht ?_
  exact k E p l e R s m args below meth c C H locs ls hW hS hL (z_tail hst)
theorem g_swIn {M : zM} {F : zF} {u pc q : Nat} {al : List (Option zV)} {st : List zV} {S : zS} {x dflt lo hi off : Int} {offs : Array Int} {len t : Nat} (hd : decode (m_c M) pc = .ok (.tableswitch dflt lo hi offs, len)) (h1 : lo ≤ x) (h2 : x ≤ hi) (ho : offs[(x - lo).toNat]? = some off) (ht : (pc : Int) + off = (t : Int)) (k : z_G M F u t al st S) : z_G M F u pc al (zI x :: st) S := by
  intro E p l e R s m args below meth c C H locs ls hW hS hL hst
  have hx : z_in x := z_top hst
  refine lv_tableIn C.1 C.2.1 hd (by rw [z_toI hx]; omega) (by rw [z_toI hx]; omega) (by rw [z_toI hx]; exact ho) ht ?_
  exact k E p l e R s m args below meth c C H locs ls hW hS hL (z_tail hst)
