/-! ===== the state read; rules that name what is read ===== -/
theorem za_sA (S : zS) (k k' : Nat) (i v j : Int) : (z_sA S k i v).2.1 k' j = if k' = k ∧ j = i then v else S.2.1 k' j := rfl
theorem za_sS (S : zS) (i k' : Nat) (v j : Int) : (z_sS S i v).2.1 k' j = S.2.1 k' j := rfl
theorem zv_sA (S : zS) (k i' : Nat) (i v : Int) : (z_sA S k i v).1 i' = S.1 i' := rfl
theorem zv_sS (S : zS) (i i' : Nat) (v : Int) : (z_sS S i v).1 i' = if i' = i then v else S.1 i' := rfl
theorem za_ne {S : zS} {k k' : Nat} {i v j : Int} (h : k' ≠ k) : (z_sA S k i v).2.1 k' j = S.2.1 k' j := by rw [za_sA, if_neg (fun q => h q.1)]
theorem za_ni {S : zS} {k k' : Nat} {i v j : Int} (h : j ≠ i) : (z_sA S k i v).2.1 k' j = S.2.1 k' j := by rw [za_sA, if_neg (fun q => h q.2)]
theorem za_eq {S : zS} {k : Nat} {i v : Int} : (z_sA S k i v).2.1 k i = v := by rw [za_sA, if_pos ⟨rfl, rfl⟩]
section
variable {M : zM} {F : zF} {u pc q : Nat} {al : List (Option zV)} {st : List zV} {S : zS}
theorem g_getv {ix o ci sl i : Nat} {z : Int} {fl : List (Nat ⊕ Nat)} (hd : decode (m_c M) pc = .ok (.getfield ix, 3)) (hq : pc + 3 = q) (hk : z_fk (m_y M).cls ix ci sl) (ho : z_obj o = some (ci, fl)) (hf : fl[sl]? = some (.inr i)) (hv : S.1 i = z) (k : z_G M F u q al (zI z :: st) S) : z_G M F u pc al (zR o :: st) S := by
  subst hv
  exact g_geti hd hq hk ho hf k
theorem g_ildv {o n : Nat} {i z : Int} (hd : decode (m_c M) pc = .ok (.iaload, 1)) (hq : pc + 1 = q) (ho : o < 49 ∧ z_obj o = none ∧ z_arr o = (0, n)) (h0 : 0 ≤ i) (h1 : i < n) (hv : S.2.1 o i = z) (k : z_G M F u q al (zI z :: st) S) : z_G M F u pc al (zI i :: zR o :: st) S := by
  subst hv
  exact g_iald hd hq ho h0 h1 k
theorem g_zldv {o n : Nat} {i z : Int} (hd : decode (m_c M) pc = .ok (.baload, 1)) (hq : pc + 1 = q) (ho : o < 49 ∧ z_obj o = none ∧ z_arr o = (1, n)) (h0 : 0 ≤ i) (h1 : i < n) (hv : S.2.1 o i = z) (k : z_G M F u q al (zI z :: st) S) : z_G M F u pc al (zI i :: zR o :: st) S := by
  subst hv
  exact g_zald hd hq ho h0 h1 k
/-- the top of the stack by another name -/
theorem g_top {x z : Int} (h : x = z) (k : z_G M F u pc al (zI z :: st) S) : z_G M F u pc al (zI x :: st) S := h ▸ k
theorem g_state {S' : zS} (h : S = S') (k : z_G M F u pc al st S') : z_G M F u pc al st S := h ▸ k
theorem g_locals {al' : List (Option zV)} (h : al = al') (k : z_G M F u pc al' st S) : z_G M F u pc al st S := h ▸ k
end
theorem z_row {i : Int} (h0 : 0 ≤ i) (h1 : i < 6) : 30 + i.toNat < 49 ∧ z_obj (30 + i.toNat) = none ∧ z_arr (30 + i.toNat) = (0, 200) := by
  have h : i = 0 ∨ i = 1 ∨ i = 2 ∨ i = 3 ∨ i = 4 ∨ i = 5 := by omega
  rcases h with rfl | rfl | rfl | rfl | rfl | rfl <;> decide
/-! counting -/
def z_ct (p : Nat → Bool) : Nat → Nat
  | 0 => 0
  | n + 1 => z_ct p n + (if p n then 1 else 0)
theorem z_ct_le (p : Nat → Bool) : ∀ n, z_ct p n ≤ n
  | 0 => Nat.le_refl _
  | n + 1 => by
    have h := z_ct_le p n
    unfold z_ct
    split <;> omega
theorem z_ct_cong {p q : Nat → Bool} : ∀ {n : Nat}, (∀ k, k < n → p k = q k) → z_ct p n = z_ct q n
  | 0, _ => rfl
  | n + 1, h => by unfold z_ct; rw [z_ct_cong (fun k hk => h k (by omega)), h n (by omega)]
/-- the first k below n with p, else none -/
def z_first (p : Nat → Bool) : Nat → Nat → Option Nat
  | _, 0 => none
  | i, n + 1 => if p i then some i else z_first p (i + 1) n
def z_on (r : Option Nat) : Int := match r with
  | some k => (k : Int)
  | none => -1
