/-! ===== RULES: bits, longs, what two instructions of a loop need ===== -/
section
variable {M : zM} {F : zF} {u pc q : Nat} {al : List (Option zV)} {st : List zV} {S : zS}
theorem g_iandv {x y z : Int} (hd : decode (m_c M) pc = .ok (.iand, 1)) (hq : pc + 1 = q) (hv : zAnd x y = z) (k : z_G M F u q al (zI z :: st) S) : z_G M F u pc al (zI y :: zI x :: st) S := by
  intro E p l e R s m args below meth c C H locs ls hW hS hL hst
  subst hq
  have e1 : Int32.ofInt x &&& Int32.ofInt y = Int32.ofInt z := by rw [← hv]; exact (z_as _).symm
  refine lv_iand C.1 C.2.1 hd ?_
  rw [e1]
  exact k E p l e R s m args below meth c C H locs ls hW hS hL (z_cons (by rw [← hv]; exact z_rng _) (z_tail (z_tail hst)))
theorem g_iorv {x y z : Int} (hd : decode (m_c M) pc = .ok (.ior, 1)) (hq : pc + 1 = q) (hv : zOr x y = z) (k : z_G M F u q al (zI z :: st) S) : z_G M F u pc al (zI y :: zI x :: st) S := by
  intro E p l e R s m args below meth c C H locs ls hW hS hL hst
  subst hq
  have e1 : Int32.ofInt x ||| Int32.ofInt y = Int32.ofInt z := by rw [← hv]; exact (z_as _).symm
  refine lv_ior C.1 C.2.1 hd ?_
  rw [e1]
  exact k E p l e R s m args below meth c C H locs ls hW hS hL (z_cons (by rw [← hv]; exact z_rng _) (z_tail (z_tail hst)))
theorem g_ixorv {x y z : Int} (hd : decode (m_c M) pc = .ok (.ixor, 1)) (hq : pc + 1 = q) (hv : zXor x y = z) (k : z_G M F u q al (zI z :: st) S) : z_G M F u pc al (zI y :: zI x :: st) S := by
  intro E p l e R s m args below meth c C H locs ls hW hS hL hst
  subst hq
  have e1 : Int32.ofInt x ^^^ Int32.ofInt y = Int32.ofInt z := by rw [← hv]; exact (z_as _).symm
  refine lv_ixor C.1 C.2.1 hd ?_
  rw [e1]
  exact k E p l e R s m args below meth c C H locs ls hW hS hL (z_cons (by rw [← hv]; exact z_rng _) (z_tail (z_tail hst)))
theorem g_ishlv {x y z : Int} (hd : decode (m_c M) pc = .ok (.ishl, 1)) (hq : pc + 1 = q) (hv : zShl x y = z) (k : z_G M F u q al (zI z :: st) S) : z_G M F u pc al (zI y :: zI x :: st) S := by
  intro E p l e R s m args below meth c C H locs ls hW hS hL hst
  subst hq
  have e1 : Int32.ofInt x <<< (Int32.ofInt y &&& 31) = Int32.ofInt z := by rw [← hv]; exact (z_as _).symm
  refine lv_ishl C.1 C.2.1 hd ?_
  rw [e1]
  exact k E p l e R s m args below meth c C H locs ls hW hS hL (z_cons (by rw [← hv]; exact z_rng _) (z_tail (z_tail hst)))
theorem g_ishrv {x y z : Int} (hd : decode (m_c M) pc = .ok (.ishr, 1)) (hq : pc + 1 = q) (hv : zShr x y = z) (k : z_G M F u q al (zI z :: st) S) : z_G M F u pc al (zI y :: zI x :: st) S := by
  intro E p l e R s m args below meth c C H locs ls hW hS hL hst
  subst hq
  have e1 : Int32.ofInt x >>> (Int32.ofInt y &&& 31) = Int32.ofInt z := by rw [← hv]; exact (z_as _).symm
  refine lv_ishr C.1 C.2.1 hd ?_
  rw [e1]
  exact k E p l e R s m args below meth c C H locs ls hW hS hL (z_cons (by rw [← hv]; exact z_rng _) (z_tail (z_tail hst)))
theorem g_iushrv {x y z : Int} (hd : decode (m_c M) pc = .ok (.iushr, 1)) (hq : pc + 1 = q) (hv : zUshr x y = z) (k : z_G M F u q al (zI z :: st) S) : z_G M F u pc al (zI y :: zI x :: st) S := by
  intro E p l e R s m args below meth c C H locs ls hW hS hL hst
  subst hq
  refine lv_iushr (v := Int32.ofInt z) C.1 C.2.1 hd (by rw [← hv]; exact (z_as _).symm) ?_
  exact k E p l e R s m args below meth c C H locs ls hW hS hL (z_cons (by rw [← hv]; exact z_rng _) (z_tail (z_tail hst)))
theorem g_landv {x y z : Int} (hd : decode (m_c M) pc = .ok (.land, 1)) (hq : pc + 1 = q) (hv : zLand x y = z) (k : z_G M F u q al (zL z :: st) S) : z_G M F u pc al (zL y :: zL x :: st) S := by
  intro E p l e R s m args below meth c C H locs ls hW hS hL hst
  subst hq
  have e1 : Int64.ofInt x &&& Int64.ofInt y = Int64.ofInt z := by rw [← hv]; exact (Int64.ofInt_toInt _).symm
  refine lv_land C.1 C.2.1 hd ?_
  rw [e1]
  exact k E p l e R s m args below meth c C H locs ls hW hS hL (z_cons (by rw [← hv]; exact z_rngL _) (z_tail (z_tail hst)))
theorem g_lorv {x y z : Int} (hd : decode (m_c M) pc = .ok (.lor, 1)) (hq : pc + 1 = q) (hv : zLor x y = z) (k : z_G M F u q al (zL z :: st) S) : z_G M F u pc al (zL y :: zL x :: st) S := by
  intro E p l e R s m args below meth c C H locs ls hW hS hL hst
  subst hq
  have e1 : Int64.ofInt x ||| Int64.ofInt y = Int64.ofInt z := by rw [← hv]; exact (Int64.ofInt_toInt _).symm
  refine lv_lor C.1 C.2.1 hd ?_
  rw [e1]
  exact k E p l e R s m args below meth c C H locs ls hW hS hL (z_cons (by rw [← hv]; exact z_rngL _) (z_tail (z_tail hst)))
theorem g_lxorv {x y z : Int} (hd : decode (m_c M) pc = .ok (.lxor, 1)) (hq : pc + 1 = q) (hv : zLxor x y = z) (k : z_G M F u q al (zL z :: st) S) : z_G M F u pc al (zL y :: zL x :: st) S := by
  intro E p l e R s m args below meth c C H locs ls hW hS hL hst
  subst hq
  have e1 : Int64.ofInt x ^^^ Int64.ofInt y = Int64.ofInt z := by rw [← hv]; exact (Int64.ofInt_toInt _).symm
  refine lv_lxor C.1 C.2.1 hd ?_
  rw [e1]
  exact k E p l e R s m args below meth c C H locs ls hW hS hL (z_cons (by rw [← hv]; exact z_rngL _) (z_tail (z_tail hst)))
theorem g_laddv {x y z : Int} (hd : decode (m_c M) pc = .ok (.ladd, 1)) (hq : pc + 1 = q) (hv : x + y = z) (hz : z_inL z) (k : z_G M F u q al (zL z :: st) S) : z_G M F u pc al (zL y :: zL x :: st) S := by
  intro E p l e R s m args below meth c C H locs ls hW hS hL hst
  subst hq
  refine lv_ladd C.1 C.2.1 hd ?_
  rw [← Int64.ofInt_add, hv]
  exact k E p l e R s m args below meth c C H locs ls hW hS hL (z_cons hz (z_tail (z_tail hst)))
theorem g_lshlv {x y z : Int} (hd : decode (m_c M) pc = .ok (.lshl, 1)) (hq : pc + 1 = q) (hv : zLshl x y = z) (k : z_G M F u q al (zL z :: st) S) : z_G M F u pc al (zI y :: zL x :: st) S := by
  intro E p l e R s m args below meth c C H locs ls hW hS hL hst
  subst hq
  refine lv_lshl (v := Int64.ofInt z) C.1 C.2.1 hd (by rw [← hv]; exact (Int64.ofInt_toInt _).symm) ?_
  exact k E p l e R s m args below meth c C H locs ls hW hS hL (z_cons (by rw [← hv]; exact z_rngL _) (z_tail (z_tail hst)))
theorem g_lshrv {x y z : Int} (hd : decode (m_c M) pc = .ok (.lshr, 1)) (hq : pc + 1 = q) (hv : zLshr x y = z) (k : z_G M F u q al (zL z :: st) S) : z_G M F u pc al (zI y :: zL x :: st) S := by
  intro E p l e R s m args below meth c C H locs ls hW hS hL hst
  subst hq
  refine lv_lshr (v := Int64.ofInt z) C.1 C.2.1 hd (by rw [← hv]; exact (Int64.ofInt_toInt _).symm) ?_
  exact k E p l e R s m args below meth c C H locs ls hW hS hL (z_cons (by rw [← hv]; exact z_rngL _) (z_tail (z_tail hst)))
theorem g_l2iv {x z : Int} (hd : decode (m_c M) pc = .ok (.l2i, 1)) (hq : pc + 1 = q) (hv : x = z) (hz : z_in z) (k : z_G M F u q al (zI z :: st) S) : z_G M F u pc al (zL x :: st) S := by
  intro E p l e R s m args below meth c C H locs ls hW hS hL hst
  subst hq
  subst hv
  refine lv_l2i (v := Int32.ofInt x) C.1 C.2.1 hd Int64.toInt32_ofInt ?_
  exact k E p l e R s m args below meth c C H locs ls hW hS hL (z_cons hz (z_tail hst))
theorem g_ldc {ix : Nat} {z : Int} (hd : decode (m_c M) pc = .ok (.ldc ix, 2)) (hq : pc + 2 = q) (hw : Cond.constant (m_y M).cls ix (Int32.ofInt z) ∈ z_big) (hz : z_in z) (k : z_G M F u q al (zI z :: st) S) : z_G M F u pc al st S := by
  intro E p l e R s m args below meth c C H locs ls hW hS hL hst
  subst hq
  refine lv_ldc (v := Int32.ofInt z) C.1 C.2.1 C.2.2.2.2.1 (C.2.2.2.2.2.1 _ hw) hd ?_
  exact k E p l e R s m args below meth c C H locs ls hW hS hL (z_cons hz hst)
theorem g_ldc2 {ix : Nat} {z : Int} (hd : decode (m_c M) pc = .ok (.ldc2_w ix, 3)) (hq : pc + 3 = q) (hw : Cond.constantLong (m_y M).cls ix (Int64.ofInt z) ∈ z_big) (hz : z_inL z) (k : z_G M F u q al (zL z :: st) S) : z_G M F u pc al st S := by
  intro E p l e R s m args below meth c C H locs ls hW hS hL hst
  subst hq
  refine lv_ldc2 (v := Int64.ofInt z) C.1 C.2.1 C.2.2.2.2.1 (C.2.2.2.2.2.1 _ hw) hd ?_
  exact k E p l e R s m args below meth c C H locs ls hW hS hL (z_cons hz hst)
theorem g_lload {i : Nat} {z : Int} (hd : decode (m_c M) pc = .ok (.lload i, 2)) (hq : pc + 2 = q) (hl : al[i]? = some (some (zL z))) (k : z_G M F u q al (zL z :: st) S) : z_G M F u pc al st S := by
  intro E p l e R s m args below meth c C H locs ls hW hS hL hst
  subst hq
  have h1 := hL.2.2.2 _ _ hl
  refine lv_lload C.1 C.2.1 hd h1.1 ?_
  exact k E p l e R s m args below meth c C H locs ls hW hS hL (z_cons h1.2.2 hst)
theorem g_lstore {i : Nat} {z : Int} (hd : decode (m_c M) pc = .ok (.lstore i, 2)) (hq : pc + 2 = q) (hn : i + 1 < m_l M) (hi : i ∈ m_w M) (k : z_G M F u q ((al.set (i + 1) none).set i (some (zL z))) st S) (hw : z_nwb (m_w M) al i = true := by rfl) : z_G M F u pc al (zL z :: st) S := by
  intro E p l e R s m args below meth c C H locs ls hW hS hL hst
  subst hq
  refine lv_lstore C.1 C.2.1 hd hL.has hn rfl (fun ls' hl' => ?_)
  exact k E p l e R s m args below meth c C H locs ls' hW hS (hL.putL hw hi (z_top hst) hl') (z_tail hst)
theorem g_dup_x2 {v w x : zV} (hd : decode (m_c M) pc = .ok (.dup_x2, 1)) (hq : pc + 1 = q) (hv : z_nl v) (hw : z_nl w) (hx : z_nl x) (k : z_G M F u q al (v :: w :: x :: v :: st) S) : z_G M F u pc al (v :: w :: x :: st) S := by
  intro E p l e R s m args below meth c C H locs ls hW hS hL hst
  subst hq
  refine lv_dup_x2 C.1 C.2.1 hd (z_cat hv) (z_cat hw) (z_cat hx) ?_
  exact k E p l e R s m args below meth c C H locs ls hW hS hL (z_cons (z_top hst) (z_cons (z_top (z_tail hst)) (z_cons (z_top (z_tail (z_tail hst))) (z_cons (z_top hst) (z_tail (z_tail (z_tail hst)))))))
theorem g_lcmpv {x y z : Int} (hd : decode (m_c M) pc = .ok (.lcmp, 1)) (hq : pc + 1 = q) (hv : (y < x ∧ z = 1) ∨ (x = y ∧ z = 0) ∨ (x < y ∧ z = -1)) (k : z_G M F u q al (zI z :: st) S) : z_G M F u pc al (zL y :: zL x :: st) S := by
  intro E p l e R s m args below meth c C H locs ls hW hS hL hst
  subst hq
  have hy : z_inL y := z_top hst
  have hx : z_inL x := z_top (z_tail hst)
  refine W.lcmp C.1 C.2.1 hd ?_
  have e0 : (Int64.ofInt x = Int64.ofInt y) ↔ x = y := by rw [← Int64.toInt_inj, z_toL hx, z_toL hy]
  have e1 : (Int64.ofInt y < Int64.ofInt x) ↔ y < x := by rw [Int64.lt_iff_toInt_lt, z_toL hx, z_toL hy]
  have hz : lg_cmp (Int64.ofInt x) (Int64.ofInt y) = Int32.ofInt z := by
    unfold lg_cmp
    rcases hv with ⟨h, rfl⟩ | ⟨h, rfl⟩ | ⟨h, rfl⟩
    · rw [if_pos (e1.mpr h)]
      rfl
    · rw [if_neg (fun q => by have := e1.mp q; omega), if_pos (e0.mpr h)]
      rfl
    · rw [if_neg (fun q => by have := e1.mp q; omega), if_neg (fun q => by have := e0.mp q; omega)]
      rfl
  rw [hz]
  exact k E p l e R s m args below meth c C H locs ls hW hS hL (z_cons (by constructor <;> omega) (z_tail (z_tail hst)))
theorem g_imulw {x y : Int} (hd : decode (m_c M) pc = .ok (.imul, 1)) (hq : pc + 1 = q) (k : ∀ z, z_in z → z_G M F u q al (zI z :: st) S) : z_G M F u pc al (zI y :: zI x :: st) S := by
  intro E p l e R s m args below meth c C H locs ls hW hS hL hst
  subst hq
  refine lv_imul C.1 C.2.1 hd ?_
  rw [z_mul]
  have e1 : Int32.ofInt (x * y) = Int32.ofInt (Int32.ofInt (x * y)).toInt := (z_as _).symm
  rw [e1]
  exact k _ (z_rng _) E p l e R s m args below meth c C H locs ls hW hS hL (z_cons (z_rng _) (z_tail (z_tail hst)))
/-- an element of the script, or what stands for it -/
theorem g_scr {i : Int} {pc1 pc2 pc3 pc4 t : Nat} {off : Int} (h0 : 0 ≤ i) (hi : i < 100000) (hl0 : al[0]? = some (some (zR 49))) (hl1 : al[1]? = some (some (zI i)))
    (hd : decode (m_c M) pc = .ok (.arraylength, 1)) (h1 : pc + 1 = pc1) (hd1 : decode (m_c M) pc1 = .ok (.if_icmp .ge off, 3)) (ht : (pc1 : Int) + off = (t : Int)) (h2 : pc1 + 3 = pc2)
    (hd2 : decode (m_c M) pc2 = .ok (.aload_n 0, 1)) (h3 : pc2 + 1 = pc3) (hd3 : decode (m_c M) pc3 = .ok (.iload_n 1, 1)) (h4 : pc3 + 1 = pc4) (hd4 : decode (m_c M) pc4 = .ok (.iaload, 1)) (hq : pc4 + 1 = q)
    (kt : z_G M F u t al st S) (kf : ∀ v, z_in v → z_G M F u q al (zI v :: st) S) : z_G M F u pc al (zR 49 :: zI i :: st) S := by
  intro E p l e R s m args below meth c C H locs ls hW hS hL hst
  subst h1 h2 h3 h4 hq
  have ho : z_in i := z_top (z_tail hst)
  have hb : e_ad E 49 < s.heap.size := by have := hW.2.2.2.2.1; have := C.2.2.2.2.2.2.2.2.2.2.1; omega
  have hA : ¬ z_A E (e_ad E 49) := by have := hW.2.2.2.2.1.2.1; unfold z_A; omega
  have hL0 : z_in (e_L E : Int) := by have := hW.2.2.2.2.1.2.2.1; constructor <;> omega
  refine va_slen C.1 C.2.1 C.2.2.2.2.2.2.2.2.2.2.2.2.2.2 hb hA hS hd ?_
  rw [show Int32.ofNat (e_L E) = Int32.ofInt (e_L E : Int) from (Int32.ofInt_eq_ofNat (n := e_L E)).symm]
  refine lv_icmp_ge (tgt := t) C.1 C.2.1 hd1 ht (fun h => ?_) (fun h => ?_)
  · exact kt E p l e R s m args below meth c C H locs ls hW hS hL (z_tail (z_tail hst))
  · have hlt : i < e_L E := by
      simp only [ge_iff_le, z_le hL0 ho] at h
      omega
    refine lv_aload_n (i := 0) C.1 C.2.1 hd2 rfl (hL.2.2.2 _ _ hl0).1 ?_
    refine lv_iload_n (i := 1) C.1 C.2.1 hd3 rfl (hL.2.2.2 _ _ hl1).1 ?_
    refine va_sld C.1 C.2.1 C.2.2.2.2.2.2.2.2.2.2.2.2.2.2 hb hA hS (z_vin ho h0 hlt) hd4 ?_
    rw [z_clamp ho]
    exact kf (e_xs E i.toNat) (hW.2.2.2.2.1.2.2.2 _) E p l e R s m args below meth c C H locs ls hW hS hL (z_cons (hW.2.2.2.2.1.2.2.2 _) (z_tail (z_tail hst)))
end
theorem z_G.widen {M : zM} {F : zF} {u u' pc : Nat} {al : List (Option zV)} {st : List zV} {S : zS} (h : u ≤ u') (k : z_G M F u' pc al st S) : z_G M F u pc al st S := by
  intro E p l e R s m args below meth c C H locs ls hW hS hL hst
  exact W.widen (by omega) (by omega) (k E p l e R s m args below meth c C H locs ls hW hS hL hst)
