/-! ===== FRAME: ints as Int, the world as a function of a state of ints ===== -/
/-- scalars by their number; arrays by the number of their cell and the index; the law's longs by their index -/
abbrev zS : Type := (Nat → Int) × (Nat → Int → Int) × (Int → Int)
/-- a value: an int, a reference (the number of its cell), a long -/
abbrev zV : Type := Int ⊕ (Nat ⊕ Int)
abbrev zI (z : Int) : zV := .inl z
abbrev zR (k : Nat) : zV := .inr (.inl k)
abbrev zL (z : Int) : zV := .inr (.inr z)
def z_in (z : Int) : Prop := -2147483648 ≤ z ∧ z < 2147483648
def z_inL (z : Int) : Prop := -9223372036854775808 ≤ z ∧ z < 9223372036854775808
def z_ok : zV → Prop
  | .inl z => z_in z
  | .inr (.inl _) => True
  | .inr (.inr z) => z_inL z
def z_nl : zV → Prop
  | .inr (.inr _) => False
  | _ => True
def z_tv (ad : Nat → Nat) : zV → Value
  | .inl z => .int (Int32.ofInt z)
  | .inr (.inl k) => .ref (ad k)
  | .inr (.inr z) => .long (Int64.ofInt z)
-- numbers
theorem z_bmod {z : Int} (h : z_in z) : z.bmod (2 ^ 32) = z := by
  obtain ⟨h1, h2⟩ := h
  rw [Int.bmod_eq_of_le (by omega) (by omega)]
theorem z_bmodL {z : Int} (h : z_inL z) : z.bmod (2 ^ 64) = z := by
  obtain ⟨h1, h2⟩ := h
  rw [Int.bmod_eq_of_le (by omega) (by omega)]
theorem z_toI {z : Int} (h : z_in z) : (Int32.ofInt z).toInt = z := by rw [Int32.toInt_ofInt, z_bmod h]
theorem z_toL {z : Int} (h : z_inL z) : (Int64.ofInt z).toInt = z := by rw [Int64.toInt_ofInt, z_bmodL h]
theorem z_as (x : Int32) : Int32.ofInt x.toInt = x := Int32.ofInt_toInt x
theorem z_rng (x : Int32) : z_in x.toInt := by
  have h1 := Int32.le_toInt x
  have h2 := Int32.toInt_lt x
  constructor <;> omega
theorem z_lt {x y : Int} (hx : z_in x) (hy : z_in y) : Int32.ofInt x < Int32.ofInt y ↔ x < y := by rw [Int32.lt_iff_toInt_lt, z_toI hx, z_toI hy]
theorem z_le {x y : Int} (hx : z_in x) (hy : z_in y) : Int32.ofInt x ≤ Int32.ofInt y ↔ x ≤ y := by rw [Int32.le_iff_toInt_le, z_toI hx, z_toI hy]
theorem z_eq {x y : Int} (hx : z_in x) (hy : z_in y) : Int32.ofInt x = Int32.ofInt y ↔ x = y := by rw [← Int32.toInt_inj, z_toI hx, z_toI hy]
theorem z_add {x y : Int} : Int32.ofInt x + Int32.ofInt y = Int32.ofInt (x + y) := (Int32.ofInt_add x y).symm
theorem z_sub {x y : Int} : Int32.ofInt x - Int32.ofInt y = Int32.ofInt (x - y) := (Int32.ofInt_sub x y).symm
theorem z_mul {x y : Int} : Int32.ofInt x * Int32.ofInt y = Int32.ofInt (x * y) := (Int32.ofInt_mul x y).symm
theorem z_div {x y : Int} (hx : z_in x) (hy : z_in y) (h0 : 0 ≤ x) (h1 : 0 < y) : Int32.ofInt x / Int32.ofInt y = Int32.ofInt (x / y) := by
  have hq : z_in (x / y) := by
    have a1 := Int.ediv_nonneg h0 (Int.le_of_lt h1)
    have a2 := Int.ediv_le_self y h0
    obtain ⟨b1, b2⟩ := hx
    constructor <;> omega
  apply Int32.toInt_inj.mp
  rw [Int32.toInt_div, z_toI hx, z_toI hy, z_toI hq, Int.tdiv_eq_ediv_of_nonneg h0, z_bmod hq]
theorem z_rem {x y : Int} (hx : z_in x) (hy : z_in y) (h0 : 0 ≤ x) (h1 : 0 < y) : Int32.ofInt x - Int32.ofInt x / Int32.ofInt y * Int32.ofInt y = Int32.ofInt (x % y) := by
  rw [z_div hx hy h0 h1, z_mul, z_sub]
  congr 1
  have := Int.mul_ediv_add_emod x y
  have h2 : y * (x / y) = x / y * y := Int.mul_comm _ _
  omega
theorem z_vin {x : Int} {n : Nat} (h : z_in x) (h0 : 0 ≤ x) (h1 : x < n) : vp_in (Int32.ofInt x) n := vp_in_iff.mpr (by rw [z_toI h]; exact ⟨h0, h1⟩)
theorem z_clamp {x : Int} (h : z_in x) : (Int32.ofInt x).toNatClampNeg = x.toNat := by
  show (Int32.ofInt x).toInt.toNat = _
  rw [z_toI h]
theorem z_nz {y : Int} (h : z_in y) (h0 : 0 < y) : ¬ Int32.ofInt y = 0 := fun q => by
  have h2 : Int32.ofInt y = Int32.ofInt 0 := q
  rw [z_eq h ⟨by omega, by omega⟩] at h2
  omega
theorem z_i2l {x : Int} (h : z_in x) : (Int32.ofInt x).toInt64 = Int64.ofInt x := by
  apply Int64.toInt_inj.mp
  rw [Int32.toInt_toInt64, z_toI h, z_toL ⟨by have := h.1; omega, by have := h.2; omega⟩]
/-- the objects: the class's number, and each slot: a reference to a cell, or a scalar -/
def z_obj : Nat → Option (Nat × List (Nat ⊕ Nat))
  | 0 => some (6, [.inl 8, .inl 1, .inl 2, .inl 3, .inl 4, .inl 5, .inl 6, .inr 0])
  | 1 => some (2, [.inl 9, .inl 10, .inl 11, .inl 12])
  | 2 => some (1, [.inl 13, .inl 14, .inl 15, .inl 16, .inl 17, .inl 18])
  | 3 => some (4, [.inl 19, .inl 20, .inl 21, .inl 22, .inl 23, .inl 24, .inr 1])
  | 4 => some (0, [.inl 25, .inl 26, .inl 27, .inr 2, .inl 28, .inl 29])
  | 5 => some (3, [.inl 36, .inl 37, .inl 38, .inr 3])
  | 6 => some (5, [.inl 39, .inr 4])
  | _ => none
/-- the arrays: 0 ints, 1 booleans, 2 the tables, 3 the law's longs; the length -/
def z_arr (k : Nat) : Nat × Nat := ([(0,4),(0,20),(1,6),(1,6),(0,6),(0,6),(0,200),(0,200),(0,200),(0,200),(0,200),(0,200),(0,60),(0,60),(0,60),(0,60),(0,60),(0,60),(0,600),(0,600),(0,600),(0,6),(2,6),(0,200),(0,200),(0,200),(0,200),(0,200),(0,200),(1,572),(0,572),(0,572),(0,7),
  (0,60),(0,12),(0,50),(0,50),(0,64),(0,6),(0,6),(0,3),(3,6)] : List (Nat × Nat)).getD (k - 7) (9, 0)
def z_fv (ad : Nat → Nat) (S : zS) : Nat ⊕ Nat → Value
  | .inl r => .ref (ad r)
  | .inr i => .int (Int32.ofInt (S.1 i))
def z_av (ad : Nat → Nat) (cy : Nat → ClassId) (S : zS) (k : Nat) : Nat × Nat → va_E
  | (0, n) => .inl (cy 0, n, .inl (fun j => Int32.ofInt (S.2.1 k j)))
  | (1, n) => .inl (cy 1, n, .inl (fun j => Int32.ofInt (S.2.1 k j)))
  | (2, n) => .inl (cy 2, n, .inr (.inr (.inr (.inr (fun j => if j < n then some (ad (30 + j)) else none)))))
  | (_, n) => .inl (cy 3, n, .inr (.inl (fun j => Int64.ofInt (S.2.2 j))))
def z_cell (ad : Nat → Nat) (cy : Nat → ClassId) (S : zS) (k : Nat) : va_E := match z_obj k with
  | some (ci, fl) => .inr (ci, fl.map (z_fv ad S))
  | none => z_av ad cy S k (z_arr k)
def z_wl (ad : Nat → Nat) (cy : Nat → ClassId) (S : zS) : va_W := (List.range 49).map (fun k => (ad k, z_cell ad cy S k))
theorem z_wl_get {ad : Nat → Nat} {cy : Nat → ClassId} {S : zS} {k : Nat} (h : k < 49) : (z_wl ad cy S)[k]? = some (ad k, z_cell ad cy S k) := by
  unfold z_wl
  rw [List.getElem?_map, List.getElem?_range h]
  rfl
theorem z_wl_set {ad : Nat → Nat} {cy : Nat → ClassId} {S S' : zS} {k : Nat} {e : va_E} (h : k < 49) (he : z_cell ad cy S' k = e) (ho : ∀ j, j < 49 → j ≠ k → z_cell ad cy S' j = z_cell ad cy S j) : (z_wl ad cy S).set k (ad k, e) = z_wl ad cy S' := by
  have hl : (z_wl ad cy S).length = 49 := by simp [z_wl]
  apply List.ext_getElem?
  intro j
  by_cases hj : j = k
  · subst hj
    rw [List.getElem?_set_self (by omega), z_wl_get h, he]
  · rw [List.getElem?_set_ne (Ne.symm hj)]
    by_cases h64 : j < 49
    · rw [z_wl_get h64, z_wl_get h64, ho j h64 hj]
    · rw [List.getElem?_eq_none (by omega), List.getElem?_eq_none (by simp [z_wl]; omega)]
-- writes
def z_sS (S : zS) (i : Nat) (v : Int) : zS := (fun j => if j = i then v else S.1 j, S.2)
def z_sA (S : zS) (k : Nat) (i v : Int) : zS := (S.1, fun k' j => if k' = k ∧ j = i then v else S.2.1 k' j, S.2.2)
def z_sL (S : zS) (i v : Int) : zS := (S.1, S.2.1, fun j => if j = i then v else S.2.2 j)
def z_okS (S : zS) : Prop := (∀ i, z_in (S.1 i)) ∧ (∀ k j, z_in (S.2.1 k j)) ∧ ∀ j, z_inL (S.2.2 j)
theorem z_okS_s {S : zS} {i : Nat} {v : Int} (h : z_okS S) (hv : z_in v) : z_okS (z_sS S i v) := ⟨fun j => by
  show z_in (if j = i then v else S.1 j)
  split
  · exact hv
  · exact h.1 j, h.2⟩
theorem z_okS_a {S : zS} {k : Nat} {i v : Int} (h : z_okS S) (hv : z_in v) : z_okS (z_sA S k i v) := ⟨h.1, fun k' j => by
  show z_in (if k' = k ∧ j = i then v else S.2.1 k' j)
  split
  · exact hv
  · exact h.2.1 k' j, h.2.2⟩
theorem z_okS_l {S : zS} {i v : Int} (h : z_okS S) (hv : z_inL v) : z_okS (z_sL S i v) := ⟨h.1, h.2.1, fun j => by
  show z_inL (if j = i then v else S.2.2 j)
  split
  · exact hv
  · exact h.2.2 j⟩
/-- where a scalar lies: the object, the slot -/
def z_home (i : Nat) : Nat × Nat := ([(0,7),(3,6),(4,3),(5,3),(6,1)] : List (Nat × Nat)).getD i (99, 0)
theorem z_homes : ∀ k, k < 49 → ∀ q : Nat × List (Nat ⊕ Nat), z_obj k = some q → ∀ s, s < q.2.length → ∀ i, q.2[s]? = some (.inr i) → z_home i = (k, s) := by
  intro k hk q hq s hs i hi
  have h : (List.range 8).all (fun k => (List.range 28).all (fun s => match (z_obj k).bind (fun q => q.2[s]?) with | some (.inr i) => decide (z_home i = (k, s)) | _ => true)) = true := by decide +kernel
  have hl : ∀ k, k < 8 → ((z_obj k).all (fun q => decide (q.2.length ≤ 28))) = true := by decide +kernel
  have k8 : k < 8 := by
    by_cases g : k < 8
    · exact g
    · exfalso
      have hn : z_obj k = none := by
        unfold z_obj
        split <;> first | rfl | omega
      rw [hn] at hq
      cases hq
  have l1 := hl k k8
  rw [hq] at l1
  simp at l1
  have e : ((z_obj k).bind (fun q => q.2[s]?)) = some (.inr i) := by rw [hq]; exact hi
  have h1 := List.all_eq_true.mp (List.all_eq_true.mp h k (List.mem_range.mpr k8)) s (List.mem_range.mpr (by omega))
  rw [e] at h1
  simpa using h1
theorem z_av_sS {ad : Nat → Nat} {cy : Nat → ClassId} {S : zS} {i : Nat} {v : Int} {k : Nat} {t : Nat × Nat} : z_av ad cy (z_sS S i v) k t = z_av ad cy S k t := by
  obtain ⟨a, n⟩ := t
  rcases a with _ | _ | _ | a <;> rfl
theorem z_cell_sS {ad : Nat → Nat} {cy : Nat → ClassId} {S : zS} {i : Nat} {v : Int} {k s : Nat} (hh : z_home i = (k, s)) : ∀ j, j < 49 → j ≠ k → z_cell ad cy (z_sS S i v) j = z_cell ad cy S j := by
  intro j hj hne
  unfold z_cell
  cases hq : z_obj j with
  | none => exact z_av_sS
  | some q =>
    obtain ⟨ci, fl⟩ := q
    show Sum.inr (ci, fl.map _) = Sum.inr (ci, fl.map _)
    congr 2
    apply List.map_congr_left
    intro x hx
    cases x with
    | inl r => rfl
    | inr i' =>
      obtain ⟨s', hs'⟩ := List.getElem?_of_mem hx
      have hl := (List.getElem?_eq_some_iff.mp hs').1
      have h1 := z_homes j hj _ hq s' hl i' hs'
      have hi : i' ≠ i := fun e => by
        subst e
        rw [hh] at h1
        exact hne (Prod.mk.inj h1).1.symm
      show Value.int (Int32.ofInt (if i' = i then v else S.1 i')) = Value.int (Int32.ofInt (S.1 i'))
      rw [if_neg hi]
theorem z_cell_sS_at {ad : Nat → Nat} {cy : Nat → ClassId} {S : zS} {i : Nat} {v : Int} {k s ci : Nat} {fl : List (Nat ⊕ Nat)} (hk : k < 49) (hh : z_home i = (k, s)) (ho : z_obj k = some (ci, fl)) (hf : fl[s]? = some (.inr i)) :
    z_cell ad cy (z_sS S i v) k = .inr (ci, (fl.map (z_fv ad S)).set s (.int (Int32.ofInt v))) := by
  unfold z_cell
  rw [ho]
  show Sum.inr (ci, fl.map _) = Sum.inr (ci, _)
  congr 2
  apply List.ext_getElem?
  intro j
  have hl := (List.getElem?_eq_some_iff.mp hf).1
  by_cases hj : j = s
  · subst hj
    rw [List.getElem?_set_self (by rw [List.length_map]; exact hl), List.getElem?_map, hf]
    show some (Value.int (Int32.ofInt (if i = i then v else S.1 i))) = _
    rw [if_pos rfl]
  · rw [List.getElem?_set_ne (Ne.symm hj), List.getElem?_map, List.getElem?_map]
    cases hx : fl[j]? with
    | none => rfl
    | some x =>
      cases x with
      | inl r => rfl
      | inr i' =>
        have h1 := z_homes k hk _ ho j (List.getElem?_eq_some_iff.mp hx).1 i' hx
        have hi : i' ≠ i := fun e => by
          subst e
          rw [hh] at h1
          exact hj (Prod.mk.inj h1).2.symm
        show some (Value.int (Int32.ofInt (if i' = i then v else S.1 i'))) = some (Value.int (Int32.ofInt (S.1 i')))
        rw [if_neg hi]
theorem z_cell_sA {ad : Nat → Nat} {cy : Nat → ClassId} {S : zS} {i v : Int} {k : Nat} : ∀ j, j < 49 → j ≠ k → z_cell ad cy (z_sA S k i v) j = z_cell ad cy S j := by
  intro j hj hne
  unfold z_cell
  cases hq : z_obj j with
  | some q => rfl
  | none =>
    show z_av _ _ _ _ _ = z_av _ _ _ _ _
    have e : ∀ x : Int, (z_sA S k i v).2.1 j x = S.2.1 j x := fun x => by
      show (if j = k ∧ x = i then v else S.2.1 j x) = _
      rw [if_neg (fun h => hne h.1)]
    generalize z_arr j = t
    obtain ⟨a, n⟩ := t
    rcases a with _ | _ | _ | a
    · show Sum.inl (_, _, Sum.inl _) = Sum.inl (_, _, Sum.inl _)
      congr 4
      funext x
      rw [e]
    · show Sum.inl (_, _, Sum.inl _) = Sum.inl (_, _, Sum.inl _)
      congr 4
      funext x
      rw [e]
    · rfl
    · rfl
theorem z_upd {S : zS} {k : Nat} {i v : Int} (h0 : 0 ≤ i) : (fun j : Nat => Int32.ofInt ((z_sA S k i v).2.1 k j)) = upd (fun j : Nat => Int32.ofInt (S.2.1 k j)) i.toNat (Int32.ofInt v) := by
  funext j
  show Int32.ofInt (if k = k ∧ (j : Int) = i then v else S.2.1 k j) = if j = i.toNat then Int32.ofInt v else Int32.ofInt (S.2.1 k j)
  by_cases h : (j : Int) = i
  · rw [if_pos ⟨rfl, h⟩, if_pos (by omega)]
  · rw [if_neg (fun q => h q.2), if_neg (by omega)]
theorem z_cell_sA_0 {ad : Nat → Nat} {cy : Nat → ClassId} {S : zS} {i v : Int} {k n : Nat} (ho : z_obj k = none) (ha : z_arr k = (0, n)) (h0 : 0 ≤ i) : z_cell ad cy (z_sA S k i v) k = .inl (cy 0, n, .inl (upd (fun j : Nat => Int32.ofInt (S.2.1 k j)) i.toNat (Int32.ofInt v))) := by
  unfold z_cell
  rw [ho]
  show z_av _ _ _ _ _ = _
  rw [ha]
  show Sum.inl (_, _, Sum.inl _) = _
  rw [z_upd h0]
theorem z_cell_sA_1 {ad : Nat → Nat} {cy : Nat → ClassId} {S : zS} {i v : Int} {k n : Nat} (ho : z_obj k = none) (ha : z_arr k = (1, n)) (h0 : 0 ≤ i) : z_cell ad cy (z_sA S k i v) k = .inl (cy 1, n, .inl (upd (fun j : Nat => Int32.ofInt (S.2.1 k j)) i.toNat (Int32.ofInt v))) := by
  unfold z_cell
  rw [ho]
  show z_av _ _ _ _ _ = _
  rw [ha]
  show Sum.inl (_, _, Sum.inl _) = _
  rw [z_upd h0]
theorem z_cell_sL {ad : Nat → Nat} {cy : Nat → ClassId} {S : zS} {i v : Int} : ∀ j, j < 49 → j ≠ 48 → z_cell ad cy (z_sL S i v) j = z_cell ad cy S j := by
  intro j hj hne
  unfold z_cell
  cases hq : z_obj j with
  | some q => rfl
  | none =>
    show z_av _ _ _ _ _ = z_av _ _ _ _ _
    have ht : ∀ j, j < 49 → j ≠ 48 → z_obj j = none → (z_arr j).1 < 3 := by decide +kernel
    have h3 := ht j hj hne hq
    generalize z_arr j = t at h3
    obtain ⟨a, n⟩ := t
    rcases a with _ | _ | _ | a
    · rfl
    · rfl
    · rfl
    · exact absurd h3 (by show ¬ a + 3 < 3; omega)
theorem z_cell_sL_at {ad : Nat → Nat} {cy : Nat → ClassId} {S : zS} {i v : Int} (h0 : 0 ≤ i) : z_cell ad cy (z_sL S i v) 48 = .inl (cy 3, 6, .inr (.inl (vp_updL (fun j : Nat => Int64.ofInt (S.2.2 j)) i.toNat (Int64.ofInt v)))) := by
  show Sum.inl (_, _, Sum.inr (Sum.inl _)) = _
  congr 5
  funext j
  show Int64.ofInt (if (j : Int) = i then v else S.2.2 j) = if j = i.toNat then Int64.ofInt v else Int64.ofInt (S.2.2 j)
  by_cases h : (j : Int) = i
  · rw [if_pos h, if_pos (by omega)]
  · rw [if_neg h, if_neg (by omega)]
/-! the surroundings: the first address of the law's own, the addresses, the classes, the array classes, the script -/
abbrev zE : Type := Nat × (Nat → Nat) × va_G × (Nat → ClassId) × Nat × (Nat → Int)
abbrev e_b (E : zE) : Nat := E.1
abbrev e_ad (E : zE) : Nat → Nat := E.2.1
abbrev e_D (E : zE) : va_G := E.2.2.1
abbrev e_cy (E : zE) : Nat → ClassId := E.2.2.2.1
abbrev e_L (E : zE) : Nat := E.2.2.2.2.1
abbrev e_xs (E : zE) : Nat → Int := E.2.2.2.2.2
def z_A (E : zE) : Nat → Prop := fun q => e_b E ≤ q
abbrev z_w (E : zE) (S : zS) : va_W := z_wl (e_ad E) (e_cy E) S
abbrev z_tys (E : zE) : List (ClassId × FieldType) := [(e_cy E 0, .int), (e_cy E 1, .boolean), (e_cy E 2, .array .int), (e_cy E 3, .long)]
def z_st (E : zE) (U : State) (H : Heap) : Prop := vx_Zq Bundle.tN "UNASSIGNED_STACK" Bundle.steD (z_A E) U H ∧ vx_Zq Bundle.tN "SUPPRESSED_SENTINEL" Bundle.listD (z_A E) U H ∧ va_X (e_ad E 49) (e_L E) (fun j => Int32.ofInt (e_xs E j)) U H
/-- the world: the heap holds the state -/
def z_wd (E : zE) (S : zS) (U : State) (H : Heap) : Prop :=
  va_P (e_D E) vwCl (z_w E S) H ∧ va_K (e_D E) vwCl (z_tys E) U ∧ va_D (z_A E) (z_w E S) ∧ z_st E U H ∧ (e_b E ≤ H.size ∧ e_ad E 49 < e_b E ∧ e_L E ≤ 260 ∧ ∀ j, z_in (e_xs E j)) ∧ z_okS S
theorem z_st.moved {E : zE} {u U : State} {H : Heap} (hvm : u.vm.Alike U.vm) (h : z_st E u H) : z_st E U H := ⟨h.1.moved hvm, h.2.1.moved hvm, h.2.2.moved hvm⟩
theorem z_wd.moved {E : zE} {S : zS} {u U : State} {H : Heap} (hvm : u.vm.Alike U.vm) (h : z_wd E S u H) : z_wd E S U H := by
  obtain ⟨h1, h2, h3, h4, h5⟩ := h
  exact ⟨h1, h2.moved hvm, h3, h4.moved hvm, h5⟩
theorem z_st.kept {E : zE} {U : State} {H H1 : Heap} (h : z_st E U H) (hb : e_b E ≤ H.size) (h64 : e_ad E 49 < e_b E) (hq : ∀ a : Nat, a < H.size → ¬ z_A E a → H1[a]? = H[a]?) : z_st E U H1 :=
  ⟨h.1.kept hq, h.2.1.kept hq, h.2.2.kept (hq _ (by omega) (by unfold z_A; omega))⟩
/-- what the tables say, of every state behind the start -/
def z_strs : List (Nat × String) := [(74, "no such block or firm"), (85, "the block is given, or the firm is gone"), (92, "no such block"), (97, "the block is not given, or one of its numbers is not free"), (297, "no such number"), (301, "secret is out of range"), (116, "the block is not given, or the number is not free"), (307, "the number is not in use"), (295, "no such firm"), (155, "a firm is not its own heir"), (158, "one of the firms is gone"), (170, "the minute is out of range"), (175, "the firm is gone, or there are too many orders"), (299, "no such order"), (193, "the order is not waiting, or comes too soon"), (202, "the order cannot be turned back"), (219, "minutes is out of range"), (221, "the minute would be too late"), (229, "lag is out of range"), (303, "what is out of range"), (281, "no such place"), (305, "way is out of range")]
def xI : String := "java/lang/IndexOutOfBoundsException"
def xA : String := "java/lang/IllegalArgumentException"
def xS : String := "java/lang/IllegalStateException"
def xR : List String := ["java/lang/RuntimeException", "java/lang/Exception"]
def z_sw (s : State) : Prop :=
  (∀ q ∈ z_strs, ∃ a, vk_R RX6 q.1 q.2 a s) ∧ (∀ X ∈ [xI, xA, xS], va_Nw (.castable X X) s) ∧ (∀ Y ∈ ["java/lang/RuntimeException", "java/lang/Exception", Bundle.tN], va_Nw (.declares (Bundle.initS Y)) s) ∧ va_Nw (.methodLinkNest RX2 25 yX6_isFirm RX6) s ∧
  (∀ q ∈ [(xI, xA), (xI, xS), (xA, xI), (xA, xS), (xS, xI), (xS, xA)], va_Nc q.1 q.2 s)
theorem z_nc_moved {C T : String} {u U : State} (hvm : u.vm.Alike U.vm) (h : va_Nc C T u) : va_Nc C T U := by
  obtain ⟨c, t, h1, h2, h3⟩ := h
  exact ⟨c, t, by rw [hvm.findClass]; exact h1, by rw [hvm.findClass]; exact h2, by rw [hvm.assignable]; exact h3⟩
theorem z_sw.warm {s U : State} (hW : s.WarmedH U.vm) (h : z_sw s) : z_sw U := by
  obtain ⟨h1, h2, h3, h4, h5⟩ := h
  refine ⟨fun q hq => ?_, fun X hX => (h2 X hX).warmC hW, fun Y hY => (h3 Y hY).warmD hW, h4.warmM hW, fun q hq => z_nc_moved hW.alike (h5 q hq)⟩
  obtain ⟨a, ha⟩ := h1 q hq
  exact ⟨a, ha.warm hW⟩
/-! methods: name, code, how many locals, what it returns, the table of handlers, the frames and locals behind it, how many exceptions it may make, where longs may lie -/
abbrev zM : Type := MethodName × ByteArray × Nat × Option FieldType × List (Nat × Nat × Nat × Nat) × Nat × Nat × Nat × List Nat
abbrev m_y (M : zM) : MethodName := M.1
abbrev m_c (M : zM) : ByteArray := M.2.1
abbrev m_l (M : zM) : Nat := M.2.2.1
abbrev m_r (M : zM) : Option FieldType := M.2.2.2.1
abbrev m_h (M : zM) : List (Nat × Nat × Nat × Nat) := M.2.2.2.2.1
abbrev m_F (M : zM) : Nat := M.2.2.2.2.2.1
abbrev m_L (M : zM) : Nat := M.2.2.2.2.2.2.1
abbrev m_u (M : zM) : Nat := M.2.2.2.2.2.2.2.1
abbrev m_w (M : zM) : List Nat := M.2.2.2.2.2.2.2.2
def z_big : List Cond := lw_tbl.filter goodWord
abbrev zQ : Type := Except String (Option zV) → zS → Prop
def z_Qc (E : zE) (Q : zQ) : Array Value → State → Outcome → State → Prop := fun _ st oc t => (∃ (r : Option zV) (S' : zS), oc = .returned (r.map (z_tv (e_ad E))) ∧ Q (.ok r) S' ∧ (∀ v, r = some v → z_ok v) ∧ z_wd E S' t t.heap) ∧ va_F (z_A E) st t
def z_XC (E : zE) (Q : zQ) : String → State → State → Prop := fun X st t => ∃ S' : zS, Q (.error X) S' ∧ z_wd E S' t t.heap ∧ va_F (z_A E) st t
def z_Pc (E : zE) (args : List zV) (S : zS) : Array Value → State → Prop := va_Pc (args.map (z_tv (e_ad E))) (fun U => z_wd E S U U.heap ∧ z_sw U ∧ ∀ v ∈ args, z_ok v)
def z_rm (M : zM) : Room := { frames := m_F M, cells := m_u M, slots := 6 * m_u M, locals := m_L M }
/-- M, called so, ends with Q -/
def z_Sp (M : zM) (args : List zV) (S : zS) (Q : zQ) : Prop := ∀ (l : Launch) (E : zE), l.stackTraces = false →
  vx_Met l (m_y M) (.code (m_y M) (m_c M) (m_l M) (m_r M) :: z_big) (z_rm M) (z_Pc E args S) (z_Qc E Q) (z_XC E Q) (m_u M) (6 * m_u M) (z_A E)
def z_lok (ad : Nat → Nat) (nL : Nat) (w : List Nat) (al : List (Option zV)) (ls : Array Slot) : Prop := ls.size = nL ∧ lv_wf ls ∧ al.length = nL ∧ ∀ (i : Nat) (v : zV), al[i]? = some (some v) → ls[i]? = some (.val (z_tv ad v)) ∧ (z_nl v ∨ i ∈ w) ∧ z_ok v
def z_nlb : Option zV → Bool
  | some (.inr (.inr _)) => false
  | _ => true
/-- no long ends where i is written -/
def z_nwb (w : List Nat) (al : List (Option zV)) (i : Nat) : Bool := i == 0 || (!(w.contains (i - 1)) || z_nlb (al.getD (i - 1) none))
def z_GW (E : zE) (M : zM) (Q : State → Prop) (cells slots : Nat) (p : Program) (l : Launch) (e : Env) (R : Room) (s : State) (m : MethodId) (args : Array Value) (below : List Frame) (meth : Method) (c : Code) (pc : Nat) (al : List (Option zV)) (st : List zV) (S : zS) : Prop :=
  ∀ (H : Heap) (locs : List Loc) (ls : Array Slot), z_wd E S s H → va_S (z_A E) s.heap H locs → z_lok (e_ad E) (m_l M) (m_w M) al ls → (∀ v ∈ st, z_ok v) →
    W p l e R s m args below meth c H locs cells slots Q (F0 m pc ls (st.map (z_tv (e_ad E))))
/-- how a walk ends, and what was made ahead of it -/
abbrev zF : Type := (zE → List Frame → Array Value → State → State → Prop) × Nat × Nat
def z_tab (M : zM) (c : Code) : Prop := c.exceptionTable.toList.map (fun x => (x.startPc, x.endPc, x.handlerPc, x.catchType)) = m_h M
def z_Cx (E : zE) (M : zM) (F : zF) (p : Program) (l : Launch) (R : Room) (s : State) (m : MethodId) (args : Array Value) (meth : Method) (c : Code) : Prop :=
  p.tables.exec = Jvm.exec ∧ c.code = m_c M ∧ c.maxLocals = m_l M ∧ meth.sig.returnType = m_r M ∧ s.vm.findClass (m_y M).cls = some m.cls ∧ (∀ w ∈ z_big, w.before args s = true) ∧ meth.locks = false ∧ z_tab M c ∧
  (R.frames = m_F M ∧ R.locals = m_L M ∧ F.2.1 + m_u M ≤ R.cells ∧ F.2.2 + 6 * m_u M ≤ R.slots) ∧ l.stackTraces = false ∧ e_b E ≤ s.heap.size ∧ z_sw s ∧ z_st E s s.heap
def z_G (M : zM) (F : zF) (u pc : Nat) (al : List (Option zV)) (st : List zV) (S : zS) : Prop :=
  ∀ (E : zE) (p : Program) (l : Launch) (e : Env) (R : Room) (s : State) (m : MethodId) (args : Array Value) (below : List Frame) (meth : Method) (c : Code), z_Cx E M F p l R s m args meth c →
    z_GW E M (F.1 E below args s) (F.2.1 + u) (F.2.2 + 6 * u) p l e R s m args below meth c pc al st S
/-- the end of a method that owes Q -/
abbrev z_F (M : zM) (Q : zQ) : zF := (fun E below args s => vx_MQ below (z_Qc E Q) (z_XC E Q) args s (m_u M) (6 * m_u M) (z_A E), 0, 0)
