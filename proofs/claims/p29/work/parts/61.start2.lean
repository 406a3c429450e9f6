/-! ===== the start: the first state, and where it lies ===== -/
abbrev a_long (E : zE) : va_E := .inl (e_cy E 3, 6, .inr (.inl (fun _ => Int64.ofInt 0)))
abbrev a_N (E : zE) (t : Nat → Nat) : va_W := [(t 0, n_ia E 4), (t 1, n_ia E 60), (t 2, n_ia E 12), (t 3, n_ia E 50), (t 4, n_ia E 50), (t 5, n_ia E 64), (t 6, a_long E), (t 7, n_ia E 6), (t 8, n_ia E 6), (t 9, n_ia E 3)]
abbrev a_W (E : zE) (a0 : Nat) (q t : Nat → Nat) (r : Nat → Nat → Nat) : va_W := ([(a0, .inr (6, f_X6 q))] ++ e_X6 E q r) ++ a_N E t
def a_ad (a0 b : Nat) (q t : Nat → Nat) (r : Nat → Nat → Nat) : Nat → Nat := fun k => [a0, q 1, q 2, q 3, q 4, q 5, q 6, t 0, q 0, r 1 0, r 1 1, r 1 2, r 1 3, r 2 0, r 2 1, r 2 2, r 2 3, r 2 4, r 2 5, r 3 0, r 3 1, r 3 2, r 3 3, r 3 4, r 3 5, r 4 0, r 4 1, r 4 2, r 4 3, r 4 4, r 4 5, r 4 6, r 4 7, r 4 8, r 4 9, r 4 10, r 5 0, r 5 1, r 5 2, r 6 0, t 1, t 2, t 3, t 4, t 5, t 7, t 8, t 9, t 6, b].getD k 0
def a_pos (k : Nat) : Nat := [0, 2, 7, 14, 21, 33, 37, 39, 1, 3, 4, 5, 6, 8, 9, 10, 11, 12, 13, 15, 16, 17, 18, 19, 20, 22, 23, 24, 25, 26, 27, 28, 29, 30, 31, 32, 34, 35, 36, 38, 40, 41, 42, 43, 44, 46, 47, 48, 45].getD k 0
theorem a_pos_inj : ∀ i, i < 49 → ∀ j, j < 49 → a_pos i = a_pos j → i = j := by decide +kernel
section
variable {E : zE} {a0 b : Nat} {q t : Nat → Nat} {r : Nat → Nat → Nat}
set_option maxRecDepth 20000 in
theorem a_at_0 : (a_W E a0 q t r)[0]? = some (a_ad a0 b q t r 0, z_cell (a_ad a0 b q t r) (e_cy E) a_S0 0) := rfl
set_option maxRecDepth 20000 in
theorem a_at_1 : (a_W E a0 q t r)[2]? = some (a_ad a0 b q t r 1, z_cell (a_ad a0 b q t r) (e_cy E) a_S0 1) := rfl
set_option maxRecDepth 20000 in
theorem a_at_2 : (a_W E a0 q t r)[7]? = some (a_ad a0 b q t r 2, z_cell (a_ad a0 b q t r) (e_cy E) a_S0 2) := rfl
set_option maxRecDepth 20000 in
theorem a_at_3 : (a_W E a0 q t r)[14]? = some (a_ad a0 b q t r 3, z_cell (a_ad a0 b q t r) (e_cy E) a_S0 3) := rfl
set_option maxRecDepth 20000 in
theorem a_at_4 : (a_W E a0 q t r)[21]? = some (a_ad a0 b q t r 4, z_cell (a_ad a0 b q t r) (e_cy E) a_S0 4) := rfl
set_option maxRecDepth 20000 in
theorem a_at_5 : (a_W E a0 q t r)[33]? = some (a_ad a0 b q t r 5, z_cell (a_ad a0 b q t r) (e_cy E) a_S0 5) := rfl
set_option maxRecDepth 20000 in
theorem a_at_6 : (a_W E a0 q t r)[37]? = some (a_ad a0 b q t r 6, z_cell (a_ad a0 b q t r) (e_cy E) a_S0 6) := rfl
set_option maxRecDepth 20000 in
theorem a_at_7 : (a_W E a0 q t r)[39]? = some (a_ad a0 b q t r 7, z_cell (a_ad a0 b q t r) (e_cy E) a_S0 7) := rfl
set_option maxRecDepth 20000 in
theorem a_at_8 : (a_W E a0 q t r)[1]? = some (a_ad a0 b q t r 8, z_cell (a_ad a0 b q t r) (e_cy E) a_S0 8) := rfl
set_option maxRecDepth 20000 in
theorem a_at_9 : (a_W E a0 q t r)[3]? = some (a_ad a0 b q t r 9, z_cell (a_ad a0 b q t r) (e_cy E) a_S0 9) := rfl
set_option maxRecDepth 20000 in
theorem a_at_10 : (a_W E a0 q t r)[4]? = some (a_ad a0 b q t r 10, z_cell (a_ad a0 b q t r) (e_cy E) a_S0 10) := rfl
set_option maxRecDepth 20000 in
theorem a_at_11 : (a_W E a0 q t r)[5]? = some (a_ad a0 b q t r 11, z_cell (a_ad a0 b q t r) (e_cy E) a_S0 11) := rfl
set_option maxRecDepth 20000 in
theorem a_at_12 : (a_W E a0 q t r)[6]? = some (a_ad a0 b q t r 12, z_cell (a_ad a0 b q t r) (e_cy E) a_S0 12) := rfl
set_option maxRecDepth 20000 in
theorem a_at_13 : (a_W E a0 q t r)[8]? = some (a_ad a0 b q t r 13, z_cell (a_ad a0 b q t r) (e_cy E) a_S0 13) := rfl
set_option maxRecDepth 20000 in
theorem a_at_14 : (a_W E a0 q t r)[9]? = some (a_ad a0 b q t r 14, z_cell (a_ad a0 b q t r) (e_cy E) a_S0 14) := rfl
set_option maxRecDepth 20000 in
theorem a_at_15 : (a_W E a0 q t r)[10]? = some (a_ad a0 b q t r 15, z_cell (a_ad a0 b q t r) (e_cy E) a_S0 15) := rfl
set_option maxRecDepth 20000 in
theorem a_at_16 : (a_W E a0 q t r)[11]? = some (a_ad a0 b q t r 16, z_cell (a_ad a0 b q t r) (e_cy E) a_S0 16) := rfl
set_option maxRecDepth 20000 in
theorem a_at_17 : (a_W E a0 q t r)[12]? = some (a_ad a0 b q t r 17, z_cell (a_ad a0 b q t r) (e_cy E) a_S0 17) := rfl
set_option maxRecDepth 20000 in
theorem a_at_18 : (a_W E a0 q t r)[13]? = some (a_ad a0 b q t r 18, z_cell (a_ad a0 b q t r) (e_cy E) a_S0 18) := rfl
set_option maxRecDepth 20000 in
theorem a_at_19 : (a_W E a0 q t r)[15]? = some (a_ad a0 b q t r 19, z_cell (a_ad a0 b q t r) (e_cy E) a_S0 19) := rfl
set_option maxRecDepth 20000 in
theorem a_at_20 : (a_W E a0 q t r)[16]? = some (a_ad a0 b q t r 20, z_cell (a_ad a0 b q t r) (e_cy E) a_S0 20) := rfl
set_option maxRecDepth 20000 in
theorem a_at_21 : (a_W E a0 q t r)[17]? = some (a_ad a0 b q t r 21, z_cell (a_ad a0 b q t r) (e_cy E) a_S0 21) := rfl
set_option maxRecDepth 20000 in
theorem a_at_22 : (a_W E a0 q t r)[18]? = some (a_ad a0 b q t r 22, z_cell (a_ad a0 b q t r) (e_cy E) a_S0 22) := rfl
set_option maxRecDepth 20000 in
theorem a_at_23 : (a_W E a0 q t r)[19]? = some (a_ad a0 b q t r 23, z_cell (a_ad a0 b q t r) (e_cy E) a_S0 23) := rfl
set_option maxRecDepth 20000 in
theorem a_at_24 : (a_W E a0 q t r)[20]? = some (a_ad a0 b q t r 24, z_cell (a_ad a0 b q t r) (e_cy E) a_S0 24) := rfl
set_option maxRecDepth 20000 in
theorem a_at_25 : (a_W E a0 q t r)[22]? = some (a_ad a0 b q t r 25, z_cell (a_ad a0 b q t r) (e_cy E) a_S0 25) := rfl
set_option maxRecDepth 20000 in
theorem a_at_26 : (a_W E a0 q t r)[23]? = some (a_ad a0 b q t r 26, z_cell (a_ad a0 b q t r) (e_cy E) a_S0 26) := rfl
set_option maxRecDepth 20000 in
theorem a_at_27 : (a_W E a0 q t r)[24]? = some (a_ad a0 b q t r 27, z_cell (a_ad a0 b q t r) (e_cy E) a_S0 27) := rfl
set_option maxRecDepth 20000 in
theorem a_at_28 : (a_W E a0 q t r)[25]? = some (a_ad a0 b q t r 28, z_cell (a_ad a0 b q t r) (e_cy E) a_S0 28) := rfl
set_option maxRecDepth 20000 in
theorem a_at_29 : (a_W E a0 q t r)[26]? = some (a_ad a0 b q t r 29, z_cell (a_ad a0 b q t r) (e_cy E) a_S0 29) := by
  show some (r 4 4, n_oa E (fun i => r 4 (5 + i))) = some (r 4 4, .inl (e_cy E 2, 6, .inr (.inr (.inr (.inr (fun j => if j < 6 then some (a_ad a0 b q t r (30 + j)) else none))))))
  refine congrArg (fun f : Nat → Option Nat => (some (r 4 4, (Sum.inl (e_cy E 2, 6, .inr (.inr (.inr (.inr f)))) : va_E)) : Option (Nat × va_E))) (funext fun j => ?_)
  by_cases hj : j < 6
  · rw [if_pos hj, if_pos hj]
    rcases (show j = 0 ∨ j = 1 ∨ j = 2 ∨ j = 3 ∨ j = 4 ∨ j = 5 by omega) with rfl | rfl | rfl | rfl | rfl | rfl <;> rfl
  · rw [if_neg hj, if_neg hj]
set_option maxRecDepth 20000 in
theorem a_at_30 : (a_W E a0 q t r)[27]? = some (a_ad a0 b q t r 30, z_cell (a_ad a0 b q t r) (e_cy E) a_S0 30) := rfl
set_option maxRecDepth 20000 in
theorem a_at_31 : (a_W E a0 q t r)[28]? = some (a_ad a0 b q t r 31, z_cell (a_ad a0 b q t r) (e_cy E) a_S0 31) := rfl
set_option maxRecDepth 20000 in
theorem a_at_32 : (a_W E a0 q t r)[29]? = some (a_ad a0 b q t r 32, z_cell (a_ad a0 b q t r) (e_cy E) a_S0 32) := rfl
set_option maxRecDepth 20000 in
theorem a_at_33 : (a_W E a0 q t r)[30]? = some (a_ad a0 b q t r 33, z_cell (a_ad a0 b q t r) (e_cy E) a_S0 33) := rfl
set_option maxRecDepth 20000 in
theorem a_at_34 : (a_W E a0 q t r)[31]? = some (a_ad a0 b q t r 34, z_cell (a_ad a0 b q t r) (e_cy E) a_S0 34) := rfl
set_option maxRecDepth 20000 in
theorem a_at_35 : (a_W E a0 q t r)[32]? = some (a_ad a0 b q t r 35, z_cell (a_ad a0 b q t r) (e_cy E) a_S0 35) := rfl
set_option maxRecDepth 20000 in
theorem a_at_36 : (a_W E a0 q t r)[34]? = some (a_ad a0 b q t r 36, z_cell (a_ad a0 b q t r) (e_cy E) a_S0 36) := rfl
set_option maxRecDepth 20000 in
theorem a_at_37 : (a_W E a0 q t r)[35]? = some (a_ad a0 b q t r 37, z_cell (a_ad a0 b q t r) (e_cy E) a_S0 37) := rfl
set_option maxRecDepth 20000 in
theorem a_at_38 : (a_W E a0 q t r)[36]? = some (a_ad a0 b q t r 38, z_cell (a_ad a0 b q t r) (e_cy E) a_S0 38) := rfl
set_option maxRecDepth 20000 in
theorem a_at_39 : (a_W E a0 q t r)[38]? = some (a_ad a0 b q t r 39, z_cell (a_ad a0 b q t r) (e_cy E) a_S0 39) := rfl
set_option maxRecDepth 20000 in
theorem a_at_40 : (a_W E a0 q t r)[40]? = some (a_ad a0 b q t r 40, z_cell (a_ad a0 b q t r) (e_cy E) a_S0 40) := rfl
set_option maxRecDepth 20000 in
theorem a_at_41 : (a_W E a0 q t r)[41]? = some (a_ad a0 b q t r 41, z_cell (a_ad a0 b q t r) (e_cy E) a_S0 41) := rfl
set_option maxRecDepth 20000 in
theorem a_at_42 : (a_W E a0 q t r)[42]? = some (a_ad a0 b q t r 42, z_cell (a_ad a0 b q t r) (e_cy E) a_S0 42) := rfl
set_option maxRecDepth 20000 in
theorem a_at_43 : (a_W E a0 q t r)[43]? = some (a_ad a0 b q t r 43, z_cell (a_ad a0 b q t r) (e_cy E) a_S0 43) := rfl
set_option maxRecDepth 20000 in
theorem a_at_44 : (a_W E a0 q t r)[44]? = some (a_ad a0 b q t r 44, z_cell (a_ad a0 b q t r) (e_cy E) a_S0 44) := rfl
set_option maxRecDepth 20000 in
theorem a_at_45 : (a_W E a0 q t r)[46]? = some (a_ad a0 b q t r 45, z_cell (a_ad a0 b q t r) (e_cy E) a_S0 45) := rfl
set_option maxRecDepth 20000 in
theorem a_at_46 : (a_W E a0 q t r)[47]? = some (a_ad a0 b q t r 46, z_cell (a_ad a0 b q t r) (e_cy E) a_S0 46) := rfl
set_option maxRecDepth 20000 in
theorem a_at_47 : (a_W E a0 q t r)[48]? = some (a_ad a0 b q t r 47, z_cell (a_ad a0 b q t r) (e_cy E) a_S0 47) := rfl
set_option maxRecDepth 20000 in
theorem a_at_48 : (a_W E a0 q t r)[45]? = some (a_ad a0 b q t r 48, z_cell (a_ad a0 b q t r) (e_cy E) a_S0 48) := rfl
theorem a_all (k : Nat) (hk : k < 49) : (a_W E a0 q t r)[a_pos k]? = some (a_ad a0 b q t r k, z_cell (a_ad a0 b q t r) (e_cy E) a_S0 k) := by
  rcases (show k = 0 ∨ k = 1 ∨ k = 2 ∨ k = 3 ∨ k = 4 ∨ k = 5 ∨ k = 6 ∨ k = 7 ∨ k = 8 ∨ k = 9 ∨ k = 10 ∨ k = 11 ∨ k = 12 ∨ k = 13 ∨ k = 14 ∨ k = 15 ∨ k = 16 ∨ k = 17 ∨ k = 18 ∨ k = 19 ∨ k = 20 ∨ k = 21 ∨ k = 22 ∨ k = 23 ∨ k = 24 ∨ k = 25 ∨ k = 26 ∨ k = 27 ∨ k = 28 ∨ k = 29 ∨ k = 30 ∨ k = 31 ∨ k = 32 ∨ k = 33 ∨ k = 34 ∨ k = 35 ∨ k = 36 ∨ k = 37 ∨ k = 38 ∨ k = 39 ∨ k = 40 ∨ k = 41 ∨ k = 42 ∨ k = 43 ∨ k = 44 ∨ k = 45 ∨ k = 46 ∨ k = 47 ∨ k = 48 by omega) with rfl | rfl | rfl | rfl | rfl | rfl | rfl | rfl | rfl | rfl | rfl | rfl | rfl | rfl | rfl | rfl | rfl | rfl | rfl | rfl | rfl | rfl | rfl | rfl | rfl | rfl | rfl | rfl | rfl | rfl | rfl | rfl | rfl | rfl | rfl | rfl | rfl | rfl | rfl | rfl | rfl | rfl | rfl | rfl | rfl | rfl | rfl | rfl | rfl
  · exact a_at_0
  · exact a_at_1
  · exact a_at_2
  · exact a_at_3
  · exact a_at_4
  · exact a_at_5
  · exact a_at_6
  · exact a_at_7
  · exact a_at_8
  · exact a_at_9
  · exact a_at_10
  · exact a_at_11
  · exact a_at_12
  · exact a_at_13
  · exact a_at_14
  · exact a_at_15
  · exact a_at_16
  · exact a_at_17
  · exact a_at_18
  · exact a_at_19
  · exact a_at_20
  · exact a_at_21
  · exact a_at_22
  · exact a_at_23
  · exact a_at_24
  · exact a_at_25
  · exact a_at_26
  · exact a_at_27
  · exact a_at_28
  · exact a_at_29
  · exact a_at_30
  · exact a_at_31
  · exact a_at_32
  · exact a_at_33
  · exact a_at_34
  · exact a_at_35
  · exact a_at_36
  · exact a_at_37
  · exact a_at_38
  · exact a_at_39
  · exact a_at_40
  · exact a_at_41
  · exact a_at_42
  · exact a_at_43
  · exact a_at_44
  · exact a_at_45
  · exact a_at_46
  · exact a_at_47
  · exact a_at_48
theorem a_wP {D : va_G} {H : Heap} (h : va_P D vwCl (a_W E a0 q t r) H) : va_P D vwCl (z_wl (a_ad a0 b q t r) (e_cy E) a_S0) H := by
  intro k x hx
  have hk : k < 49 := by
    have := (List.getElem?_eq_some_iff.mp hx).1
    simp [z_wl] at this
    exact this
  rw [z_wl_get hk] at hx
  cases hx
  exact h _ _ (a_all k hk)
theorem a_wD {A : Nat → Prop} (h : va_D A (a_W E a0 q t r)) : va_D A (z_wl (a_ad a0 b q t r) (e_cy E) a_S0) := by
  have lt : ∀ (k : Nat) (x : Nat × va_E), (z_wl (a_ad a0 b q t r) (e_cy E) a_S0)[k]? = some x → k < 49 := fun k x hx => by
    have := (List.getElem?_eq_some_iff.mp hx).1
    simp [z_wl] at this
    exact this
  refine ⟨fun i j x y hx hy hxy => ?_, fun k x hx => ?_⟩
  · have hi := lt i x hx
    have hj := lt j y hy
    rw [z_wl_get hi] at hx
    rw [z_wl_get hj] at hy
    cases hx
    cases hy
    exact a_pos_inj i hi j hj (h.1 _ _ _ _ (a_all (b := b) i hi) (a_all (b := b) j hj) hxy)
  · have hk := lt k x hx
    rw [z_wl_get hk] at hx
    cases hx
    exact h.2 _ _ (a_all (b := b) k hk)
end
theorem a_ok : z_okS a_S0 := by
  refine ⟨fun i => show z_in 0 by constructor <;> decide, fun k j => ?_, fun j => show z_inL 0 by constructor <;> decide⟩
  show z_in (a_A0 k)
  unfold a_A0
  split
  · constructor <;> decide
  · split <;> constructor <;> decide
