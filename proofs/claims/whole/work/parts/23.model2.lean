/-! ===== the reference: minutes, tables, calls ===== -/
theorem z_sA_sA {S : zS} {k : Nat} {i a b : Int} : z_sA (z_sA S k i a) k i b = z_sA S k i b := by
  unfold z_sA
  congr 2
  funext k' j
  by_cases h : k' = k ∧ j = i
  · rw [if_pos h, if_pos h]
  · rw [if_neg h, if_neg h]
    show (if k' = k ∧ j = i then a else S.2.1 k' j) = S.2.1 k' j
    rw [if_neg h]
/-! the minutes that are full are few -/
def y_sm (g : Nat → Nat) : Nat → Nat
  | 0 => 0
  | j + 1 => y_sm g j + g j
theorem y_sm_add {g h : Nat → Nat} : ∀ J, y_sm (fun j => g j + h j) J = y_sm g J + y_sm h J
  | 0 => rfl
  | J + 1 => by rw [y_sm, y_sm, y_sm, y_sm_add J]; omega
theorem y_sm_cong {g h : Nat → Nat} (e : ∀ j, g j = h j) (J : Nat) : y_sm g J = y_sm h J := by rw [funext e]
theorem y_sm_ind {A : Prop} [Decidable A] {v m0 : Int} : ∀ J : Nat, y_sm (fun j => if A ∧ v = m0 + 100 * (j : Int) then 1 else 0) J ≤ if v < m0 + 100 * (J : Int) then 1 else 0
  | 0 => by rw [y_sm]; exact Nat.zero_le _
  | J + 1 => by
    have h := y_sm_ind (A := A) (v := v) (m0 := m0) J
    rw [y_sm]
    split at h <;> split <;> split <;> omega
theorem y_sm_cwa {S : zS} {m0 : Int} (J : Nat) : ∀ c : Nat, y_sm (fun j => y_cwa S (m0 + 100 * (j : Int)) c) J ≤ c
  | 0 => by
    have : y_sm (fun j => y_cwa S (m0 + 100 * (j : Int)) 0) J = 0 := by
      induction J with
      | zero => rfl
      | succ J ih => rw [y_sm, ih]; rfl
    omega
  | c + 1 => by
    have h := y_sm_cwa (S := S) (m0 := m0) J c
    have h2 := y_sm_ind (A := S.2.1 48 c = 1) (v := S.2.1 53 c) (m0 := m0) J
    rw [y_sm_cong (fun j => y_cwa_s S (m0 + 100 * (j : Int)) c), y_sm_add]
    split at h2 <;> omega
theorem y_sm_ge {g : Nat → Nat} : ∀ J : Nat, (∀ j, j < J → 3 ≤ g j) → 3 * J ≤ y_sm g J
  | 0, _ => by simp
  | J + 1, h => by
    have h1 := y_sm_ge J (fun j hj => h j (by omega))
    have h2 := h J (by omega)
    rw [y_sm]
    omega
theorem y_free {S : zS} {c : Nat} (h60 : c ≤ 60) (m0 : Int) : ∃ j : Nat, j < 60 ∧ y_cwa S (m0 + 100 * j) c < 3 := by
  refine Classical.byContradiction fun hn => ?_
  have h1 := y_sm_ge (g := fun j => y_cwa S (m0 + 100 * (j : Int)) c) 21 (fun j hj => by
    refine Classical.byContradiction fun q => hn ⟨j, by omega, by omega⟩)
  have h2 := y_sm_cwa (S := S) (m0 := m0) 21 c
  omega
theorem y_po_rng {S : zS} {c : Nat} : ∀ (k : Nat) (m : Int), m ≤ y_po S c m k ∧ y_po S c m k ≤ m + 100 * k
  | 0, m => by simp [y_po]
  | k + 1, m => by
    have h := y_po_rng (S := S) (c := c) k (m + 100)
    unfold y_po
    split <;> omega
/-- what holds of the reference's rows while minutes go by -/
def yP (S : zS) (c : Nat) : Prop :=
  S.1 7 = c ∧ c ≤ 60 ∧ yM S ∧ 0 ≤ S.1 8 ∧
  (∀ o : Int, 0 ≤ o → o < c → (0 ≤ S.2.1 50 o ∧ S.2.1 50 o < 200) ∧ (0 ≤ S.2.1 51 o ∧ S.2.1 51 o < 6) ∧ (0 ≤ S.2.1 53 o ∧ S.2.1 53 o ≤ 20000) ∧ (S.2.1 48 o = 1 → ¬ S.2.1 42 (S.2.1 50 o) = -1)) ∧
  (∀ n : Int, 0 ≤ n → n < 200 → -1 ≤ S.2.1 42 n ∧ S.2.1 42 n < 6) ∧
  (∀ f : Int, 0 ≤ f → f < 6 → 0 ≤ S.2.1 58 f ∧ S.2.1 58 f ≤ S.1 8 ∧ 0 ≤ S.2.1 59 f ∧ S.2.1 59 f ≤ 50)
def y_co (S : zS) (c : Nat) (o : Int) : zS :=
  if S.1 6 - S.2.1 46 (S.2.1 50 o) ≤ 30 then z_sA S 53 o (y_po S c (S.2.1 53 o + 100) 60)
  else if S.2.1 42 (S.2.1 50 o) = S.2.1 51 o then z_sA S 48 o 3
  else y_ct (y_pay (z_sA (z_sA (z_sA S 52 o (S.2.1 42 (S.2.1 50 o))) 48 o 2) 54 o (S.1 6)) (S.2.1 51 o) (S.2.1 42 (S.2.1 50 o)) 5) (S.2.1 50 o) (S.2.1 51 o) o
def y_cob (S : zS) (o : Int) : Int :=
  if S.1 6 - S.2.1 46 (S.2.1 50 o) ≤ 30 then 0
  else if S.2.1 42 (S.2.1 50 o) = S.2.1 51 o then 0
  else 1
theorem y_co_mono {S : zS} {c : Nat} {o : Int} : S.1 8 ≤ (y_co S c o).1 8 := by
  unfold y_co
  split
  · exact Int.le_refl _
  · split
    · exact Int.le_refl _
    · show S.1 8 ≤ S.1 8 + 1; omega
theorem t_comes {S : zS} {c : Nat} {o : Int} (P : yP S c) (ho : 0 ≤ o ∧ o < c) (hw : S.2.1 48 o = 1) (hdue : S.2.1 53 o ≤ 9999) (h2 : (y_co S c o).1 8 ≤ 4000) : z_Fn mX7_comes [zR 7, zI o] S (some (zI (y_cob S o))) (y_co S c o) := by
  obtain ⟨hc, h60, hM, hc2, hO, hN, hF⟩ := P
  obtain ⟨o1, o2, o3, o4⟩ := hO o ho.1 ho.2
  have o5 := o4 hw
  have o6 := hN _ o1.1 o1.2
  refine z_enter (by decide +kernel) rfl (z_n1 trivial (z_n1 trivial z_n0)) (Nat.le_of_ble_eq_true rfl) ?_
  by_cases e1 : S.1 6 - S.2.1 46 (S.2.1 50 o) ≤ 30
  · have e : y_co S c o = z_sA S 53 o (y_po S c (S.2.1 53 o + 100) 60) := by unfold y_co; rw [if_pos e1]
    have eb : y_cob S o = 0 := by unfold y_cob; rw [if_pos e1]
    rw [e, eb]
    refine g_aload_n (i := 0) (q := 1) dX7_comes_0 rfl rfl rfl ?_
    refine g_getr (q := 4) dX7_comes_1 rfl fk_X7_41 rfl rfl ?_
    refine g_iload_n (i := 1) (q := 5) dX7_comes_4 rfl rfl rfl ?_
    refine g_ildv (q := 6) (z := S.2.1 50 o) dX7_comes_5 rfl ⟨by decide, rfl, rfl⟩ (by omega) (by omega) rfl ?_
    refine g_istore_n (i := 2) (q := 7) dX7_comes_6 rfl rfl (by decide) ?_
    refine g_aload_n (i := 0) (q := 8) dX7_comes_7 rfl rfl rfl ?_
    refine g_iload_n (i := 2) (q := 9) dX7_comes_8 rfl rfl rfl ?_
    refine g_fnV (as := [zI (S.2.1 50 o)]) (q := 12) (u' := 0) dX7_comes_9 rfl ck_X7_153 rfl rfl rfl (Nat.le_of_ble_eq_true rfl) (by decide) rfl (by decide) (t_isCalledBack_t hM (by omega) e1) rfl ?_
    refine g_if_eq (t := 22) (q := 15) dX7_comes_12 (by decide) rfl (fun h12 => (False.elim (by omega))) (fun h12 => ?_)
    refine g_aload_n (i := 0) (q := 16) dX7_comes_15 rfl rfl rfl ?_
    refine g_iload_n (i := 1) (q := 17) dX7_comes_16 rfl rfl rfl ?_
    refine g_fnV (as := [zI o]) (q := 20) (u' := 0) dX7_comes_17 rfl ck_X7_156 rfl rfl rfl (Nat.le_of_ble_eq_true rfl) (by decide) rfl (by decide) (t_putsOff hc h60 (by omega) (by omega) (y_free h60 _)) rfl ?_
    refine g_iconst (q := 21) dX7_comes_20 rfl ⟨by decide, by decide⟩ ?_
    exact g_retz dX7_comes_21 rfl (by omega) (by decide) (by first | exact ⟨rfl, rfl⟩ | (exfalso; omega))
  · by_cases e2 : S.2.1 42 (S.2.1 50 o) = S.2.1 51 o
    · have e : y_co S c o = z_sA S 48 o 3 := by unfold y_co; rw [if_neg e1, if_pos e2]
      have eb : y_cob S o = 0 := by unfold y_cob; rw [if_neg e1, if_pos e2]
      rw [e, eb]
      refine g_aload_n (i := 0) (q := 1) dX7_comes_0 rfl rfl rfl ?_
      refine g_getr (q := 4) dX7_comes_1 rfl fk_X7_41 rfl rfl ?_
      refine g_iload_n (i := 1) (q := 5) dX7_comes_4 rfl rfl rfl ?_
      refine g_ildv (q := 6) (z := S.2.1 50 o) dX7_comes_5 rfl ⟨by decide, rfl, rfl⟩ (by omega) (by omega) rfl ?_
      refine g_istore_n (i := 2) (q := 7) dX7_comes_6 rfl rfl (by decide) ?_
      refine g_aload_n (i := 0) (q := 8) dX7_comes_7 rfl rfl rfl ?_
      refine g_iload_n (i := 2) (q := 9) dX7_comes_8 rfl rfl rfl ?_
      refine g_fnV (as := [zI (S.2.1 50 o)]) (q := 12) (u' := 0) dX7_comes_9 rfl ck_X7_153 rfl rfl rfl (Nat.le_of_ble_eq_true rfl) (by decide) rfl (by decide) (t_isCalledBack_f hM (by omega) e1) rfl ?_
      refine g_if_eq (t := 22) (q := 15) dX7_comes_12 (by decide) rfl (fun h12 => ?_) (fun h12 => (False.elim (by omega)))
      refine g_aload_n (i := 0) (q := 23) dX7_comes_22 rfl rfl rfl ?_
      refine g_getr (q := 26) dX7_comes_23 rfl fk_X7_17 rfl rfl ?_
      refine g_iload_n (i := 2) (q := 27) dX7_comes_26 rfl rfl rfl ?_
      refine g_ildv (q := 28) (z := S.2.1 42 (S.2.1 50 o)) dX7_comes_27 rfl ⟨by decide, rfl, rfl⟩ (by omega) (by omega) rfl ?_
      refine g_aload_n (i := 0) (q := 29) dX7_comes_28 rfl rfl rfl ?_
      refine g_getr (q := 32) dX7_comes_29 rfl fk_X7_44 rfl rfl ?_
      refine g_iload_n (i := 1) (q := 33) dX7_comes_32 rfl rfl rfl ?_
      refine g_ildv (q := 34) (z := S.2.1 51 o) dX7_comes_33 rfl ⟨by decide, rfl, rfl⟩ (by omega) (by omega) rfl ?_
      refine g_icmp_ne (t := 46) (q := 37) dX7_comes_34 (by decide) rfl (fun h34 => (False.elim (by omega))) (fun h34 => ?_)
      refine g_aload_n (i := 0) (q := 38) dX7_comes_37 rfl rfl rfl ?_
      refine g_getr (q := 41) dX7_comes_38 rfl fk_X7_35 rfl rfl ?_
      refine g_iload_n (i := 1) (q := 42) dX7_comes_41 rfl rfl rfl ?_
      refine g_iconst (q := 43) dX7_comes_42 rfl ⟨by decide, by decide⟩ ?_
      refine g_iast (q := 44) dX7_comes_43 rfl ⟨by decide, rfl, rfl⟩ (by omega) (by omega) ?_
      refine g_iconst (q := 45) dX7_comes_44 rfl ⟨by decide, by decide⟩ ?_
      exact g_retz dX7_comes_45 rfl (by omega) (by decide) (by first | exact ⟨rfl, rfl⟩ | (exfalso; omega))
    · have e : y_co S c o = y_ct (y_pay (z_sA (z_sA (z_sA S 52 o (S.2.1 42 (S.2.1 50 o))) 48 o 2) 54 o (S.1 6)) (S.2.1 51 o) (S.2.1 42 (S.2.1 50 o)) 5) (S.2.1 50 o) (S.2.1 51 o) o := by unfold y_co; rw [if_neg e1, if_neg e2]
      have eb : y_cob S o = 1 := by unfold y_cob; rw [if_neg e1, if_neg e2]
      rw [eb]
      rw [e] at h2 ⊢
      have h21 : S.1 8 + 1 ≤ 4000 := h2
      refine g_aload_n (i := 0) (q := 1) dX7_comes_0 rfl rfl rfl ?_
      refine g_getr (q := 4) dX7_comes_1 rfl fk_X7_41 rfl rfl ?_
      refine g_iload_n (i := 1) (q := 5) dX7_comes_4 rfl rfl rfl ?_
      refine g_ildv (q := 6) (z := S.2.1 50 o) dX7_comes_5 rfl ⟨by decide, rfl, rfl⟩ (by omega) (by omega) rfl ?_
      refine g_istore_n (i := 2) (q := 7) dX7_comes_6 rfl rfl (by decide) ?_
      refine g_aload_n (i := 0) (q := 8) dX7_comes_7 rfl rfl rfl ?_
      refine g_iload_n (i := 2) (q := 9) dX7_comes_8 rfl rfl rfl ?_
      refine g_fnV (as := [zI (S.2.1 50 o)]) (q := 12) (u' := 0) dX7_comes_9 rfl ck_X7_153 rfl rfl rfl (Nat.le_of_ble_eq_true rfl) (by decide) rfl (by decide) (t_isCalledBack_f hM (by omega) e1) rfl ?_
      refine g_if_eq (t := 22) (q := 15) dX7_comes_12 (by decide) rfl (fun h12 => ?_) (fun h12 => (False.elim (by omega)))
      refine g_aload_n (i := 0) (q := 23) dX7_comes_22 rfl rfl rfl ?_
      refine g_getr (q := 26) dX7_comes_23 rfl fk_X7_17 rfl rfl ?_
      refine g_iload_n (i := 2) (q := 27) dX7_comes_26 rfl rfl rfl ?_
      refine g_ildv (q := 28) (z := S.2.1 42 (S.2.1 50 o)) dX7_comes_27 rfl ⟨by decide, rfl, rfl⟩ (by omega) (by omega) rfl ?_
      refine g_aload_n (i := 0) (q := 29) dX7_comes_28 rfl rfl rfl ?_
      refine g_getr (q := 32) dX7_comes_29 rfl fk_X7_44 rfl rfl ?_
      refine g_iload_n (i := 1) (q := 33) dX7_comes_32 rfl rfl rfl ?_
      refine g_ildv (q := 34) (z := S.2.1 51 o) dX7_comes_33 rfl ⟨by decide, rfl, rfl⟩ (by omega) (by omega) rfl ?_
      refine g_icmp_ne (t := 46) (q := 37) dX7_comes_34 (by decide) rfl (fun h34 => ?_) (fun h34 => (False.elim (by omega)))
      refine g_aload_n (i := 0) (q := 47) dX7_comes_46 rfl rfl rfl ?_
      refine g_getr (q := 50) dX7_comes_47 rfl fk_X7_47 rfl rfl ?_
      refine g_iload_n (i := 1) (q := 51) dX7_comes_50 rfl rfl rfl ?_
      refine g_aload_n (i := 0) (q := 52) dX7_comes_51 rfl rfl rfl ?_
      refine g_getr (q := 55) dX7_comes_52 rfl fk_X7_17 rfl rfl ?_
      refine g_iload_n (i := 2) (q := 56) dX7_comes_55 rfl rfl rfl ?_
      refine g_ildv (q := 57) (z := S.2.1 42 (S.2.1 50 o)) dX7_comes_56 rfl ⟨by decide, rfl, rfl⟩ (by omega) (by omega) rfl ?_
      refine g_iast (q := 58) dX7_comes_57 rfl ⟨by decide, rfl, rfl⟩ (by omega) (by omega) ?_
      refine g_aload_n (i := 0) (q := 59) dX7_comes_58 rfl rfl rfl ?_
      refine g_getr (q := 62) dX7_comes_59 rfl fk_X7_35 rfl rfl ?_
      refine g_iload_n (i := 1) (q := 63) dX7_comes_62 rfl rfl rfl ?_
      refine g_iconst (q := 64) dX7_comes_63 rfl ⟨by decide, by decide⟩ ?_
      refine g_iast (q := 65) dX7_comes_64 rfl ⟨by decide, rfl, rfl⟩ (by omega) (by omega) ?_
      refine g_aload_n (i := 0) (q := 66) dX7_comes_65 rfl rfl rfl ?_
      refine g_getr (q := 69) dX7_comes_66 rfl fk_X7_53 rfl rfl ?_
      refine g_iload_n (i := 1) (q := 70) dX7_comes_69 rfl rfl rfl ?_
      refine g_aload_n (i := 0) (q := 71) dX7_comes_70 rfl rfl rfl ?_
      refine g_getv (q := 74) (z := S.1 6) dX7_comes_71 rfl fk_X7_91 rfl rfl rfl ?_
      refine g_iast (q := 75) dX7_comes_74 rfl ⟨by decide, rfl, rfl⟩ (by omega) (by omega) ?_
      refine g_aload_n (i := 0) (q := 76) dX7_comes_75 rfl rfl rfl ?_
      refine g_aload_n (i := 0) (q := 77) dX7_comes_76 rfl rfl rfl ?_
      refine g_getr (q := 80) dX7_comes_77 rfl fk_X7_44 rfl rfl ?_
      refine g_iload_n (i := 1) (q := 81) dX7_comes_80 rfl rfl rfl ?_
      refine g_ildv (q := 82) (z := S.2.1 51 o) dX7_comes_81 rfl ⟨by decide, rfl, rfl⟩ (by omega) (by omega) rfl ?_
      refine g_aload_n (i := 0) (q := 83) dX7_comes_82 rfl rfl rfl ?_
      refine g_getr (q := 86) dX7_comes_83 rfl fk_X7_47 rfl rfl ?_
      refine g_iload_n (i := 1) (q := 87) dX7_comes_86 rfl rfl rfl ?_
      refine g_ildv (q := 88) (z := S.2.1 42 (S.2.1 50 o)) dX7_comes_87 rfl ⟨by decide, rfl, rfl⟩ (by omega) (by omega) za_eq ?_
      refine g_iconst (q := 89) dX7_comes_88 rfl ⟨by decide, by decide⟩ ?_
      refine g_fnV (as := [zI (S.2.1 51 o), zI (S.2.1 42 (S.2.1 50 o)), zI 5]) (q := 92) (u' := 0) dX7_comes_89 rfl ck_X7_146 rfl rfl rfl (Nat.le_of_ble_eq_true rfl) (by decide) rfl (by decide) (t_pays (S := z_sA (z_sA (z_sA S 52 o (S.2.1 42 (S.2.1 50 o))) 48 o 2) 54 o (S.1 6)) (by omega) (by omega)) rfl ?_
      refine g_aload_n (i := 0) (q := 93) dX7_comes_92 rfl rfl rfl ?_
      refine g_iload_n (i := 2) (q := 94) dX7_comes_93 rfl rfl rfl ?_
      refine g_aload_n (i := 0) (q := 95) dX7_comes_94 rfl rfl rfl ?_
      refine g_getr (q := 98) dX7_comes_95 rfl fk_X7_44 rfl rfl ?_
      refine g_iload_n (i := 1) (q := 99) dX7_comes_98 rfl rfl rfl ?_
      refine g_ildv (q := 100) (z := S.2.1 51 o) dX7_comes_99 rfl ⟨by decide, rfl, rfl⟩ (by omega) (by omega) rfl ?_
      refine g_iload_n (i := 1) (q := 101) dX7_comes_100 rfl rfl rfl ?_
      refine g_fnV (as := [zI (S.2.1 50 o), zI (S.2.1 51 o), zI o]) (q := 104) (u' := 0) dX7_comes_101 rfl ck_X7_150 rfl rfl rfl (Nat.le_of_ble_eq_true rfl) (by decide) rfl (by decide) (t_comesTo (S := y_pay (z_sA (z_sA (z_sA S 52 o (S.2.1 42 (S.2.1 50 o))) 48 o 2) 54 o (S.1 6)) (S.2.1 51 o) (S.2.1 42 (S.2.1 50 o)) 5) o1 (show 0 ≤ S.1 8 ∧ S.1 8 < 4000 by omega)) rfl ?_
      refine g_iconst (q := 105) dX7_comes_104 rfl ⟨by decide, by decide⟩ ?_
      exact g_retz dX7_comes_105 rfl (by omega) (by decide) (by first | exact ⟨rfl, rfl⟩ | (exfalso; omega))
theorem y_don {S : zS} {a b : Int} {o n : Int} {w : Int} {k : Nat} {j : Int} (T : zS) (hT : T = y_ct (y_pay (z_sA (z_sA (z_sA S 52 o a) 48 o 2) 54 o b) w a 5) n w o) (h : k = 44 ∨ k = 45 ∨ k = 46 ∨ k = 50 ∨ k = 51 ∨ k = 53 ∨ k = 58 ∨ k = 59) : T.2.1 k j = S.2.1 k j := by
  subst hT
  rcases h with rfl | rfl | rfl | rfl | rfl | rfl | rfl | rfl <;> simp [y_ct, y_pay, y_chg, z_sA, z_sS]
theorem y_don42 {S : zS} {a b : Int} {o n : Int} {w : Int} {j : Int} (T : zS) (hT : T = y_ct (y_pay (z_sA (z_sA (z_sA S 52 o a) 48 o 2) 54 o b) w a 5) n w o) : T.2.1 42 j = if j = n then w else S.2.1 42 j := by
  subst hT
  simp [y_ct, y_pay, y_chg, z_sA, z_sS]
theorem y_don48 {S : zS} {a b : Int} {o n : Int} {w : Int} {j : Int} (T : zS) (hT : T = y_ct (y_pay (z_sA (z_sA (z_sA S 52 o a) 48 o 2) 54 o b) w a 5) n w o) : T.2.1 48 j = if j = o then 2 else S.2.1 48 j := by
  subst hT
  simp [y_ct, y_pay, y_chg, z_sA, z_sS]
theorem yP_co {S : zS} {c : Nat} {o : Int} (P : yP S c) (ho : 0 ≤ o ∧ o < c) (hw : S.2.1 48 o = 1) (hdue : S.2.1 53 o ≤ 9999) : yP (y_co S c o) c := by
  obtain ⟨hc, h60, hM, hc2, hO, hN, hF⟩ := id P
  obtain ⟨o1, o2, o3, o4⟩ := hO o ho.1 ho.2
  have o5 := o4 hw
  have o6 := hN _ o1.1 o1.2
  unfold y_co
  split
  · have hp := y_po_rng (S := S) (c := c) 60 (S.2.1 53 o + 100)
    refine ⟨hc, h60, hM, hc2, fun o' a b => ?_, hN, hF⟩
    obtain ⟨q1, q2, q3, q4⟩ := hO o' a b
    refine ⟨q1, q2, ?_, q4⟩
    rw [za_sA]
    split <;> omega
  · split
    · refine ⟨hc, h60, hM, hc2, fun o' a b => ?_, hN, hF⟩
      obtain ⟨q1, q2, q3, q4⟩ := hO o' a b
      refine ⟨q1, q2, q3, fun h => ?_⟩
      rw [za_sA] at h
      split at h
      · omega
      · exact q4 h
    · generalize hT : y_ct (y_pay (z_sA (z_sA (z_sA S 52 o (S.2.1 42 (S.2.1 50 o))) 48 o 2) 54 o (S.1 6)) (S.2.1 51 o) (S.2.1 42 (S.2.1 50 o)) 5) (S.2.1 50 o) (S.2.1 51 o) o = T
      have t6 : T.1 6 = S.1 6 := by rw [← hT]; rfl
      have t7 : T.1 7 = S.1 7 := by rw [← hT]; rfl
      have t8 : T.1 8 = S.1 8 + 1 := by rw [← hT]; rfl
      have tt := fun k j h => y_don (k := k) (j := j) T hT.symm h
      have t42 := fun j => y_don42 (j := j) T hT.symm
      have t48 := fun j => y_don48 (j := j) T hT.symm
      refine ⟨t7.trans hc, h60, ⟨by rw [t6]; exact hM.1, fun n a b => ?_⟩, by rw [t8]; omega, fun o' a b => ?_, fun n a b => ?_, fun f a b => ?_⟩
      · rw [tt 44 n (by simp), tt 45 n (by simp), tt 46 n (by simp)]
        exact hM.2 n a b
      · rw [tt 50 o' (by simp), tt 51 o' (by simp), tt 53 o' (by simp)]
        obtain ⟨q1, q2, q3, q4⟩ := hO o' a b
        refine ⟨q1, q2, q3, fun h => ?_⟩
        rw [t48] at h
        rw [t42]
        split at h
        · omega
        · have q5 := q4 h
          split <;> omega
      · rw [t42]
        have q := hN n a b
        split <;> omega
      · rw [tt 58 f (by simp), tt 59 f (by simp), t8]
        have q := hF f a b
        exact ⟨q.1, by omega, q.2.2⟩
def y_cd (S : zS) (c : Nat) : Nat → Nat → zS
  | _, 0 => S
  | i, k + 1 => y_cd (if S.2.1 48 i = 1 ∧ S.2.1 53 i = S.1 6 then y_co S c i else S) c (i + 1) k
def y_cdn (S : zS) (c : Nat) : Nat → Nat → Int
  | _, 0 => 0
  | i, k + 1 => (if S.2.1 48 i = 1 ∧ S.2.1 53 i = S.1 6 then y_cob S i else 0) + y_cdn (if S.2.1 48 i = 1 ∧ S.2.1 53 i = S.1 6 then y_co S c i else S) c (i + 1) k
theorem y_cd_mono {c : Nat} : ∀ (k i : Nat) (S : zS), S.1 8 ≤ (y_cd S c i k).1 8
  | 0, _, _ => Int.le_refl _
  | k + 1, i, S => by
    have h := y_cd_mono (c := c) k (i + 1) (if S.2.1 48 i = 1 ∧ S.2.1 53 i = S.1 6 then y_co S c i else S)
    rw [y_cd]
    have h2 : S.1 8 ≤ (if S.2.1 48 i = 1 ∧ S.2.1 53 i = S.1 6 then y_co S c i else S).1 8 := by
      split
      · exact y_co_mono
      · exact Int.le_refl _
    exact Int.le_trans h2 h
theorem y_co_now {S : zS} {c : Nat} {o : Int} : (y_co S c o).1 6 = S.1 6 := by
  unfold y_co
  split
  · rfl
  · split <;> rfl
theorem y_cd_now {c : Nat} : ∀ (k i : Nat) (S : zS), (y_cd S c i k).1 6 = S.1 6
  | 0, _, _ => rfl
  | k + 1, i, S => by
    rw [y_cd, y_cd_now k (i + 1)]
    split
    · exact y_co_now
    · rfl
theorem y_co_thr {S : zS} {c : Nat} {o : Int} : (y_co S c o).1 5 = S.1 5 := by
  unfold y_co
  split
  · rfl
  · split <;> rfl
theorem y_cd_thr {c : Nat} : ∀ (k i : Nat) (S : zS), (y_cd S c i k).1 5 = S.1 5
  | 0, _, _ => rfl
  | k + 1, i, S => by
    rw [y_cd, y_cd_thr k (i + 1)]
    split
    · exact y_co_thr
    · rfl
theorem yP_cd {c : Nat} : ∀ (k i : Nat) (S : zS), i + k = c → yP S c → yP (y_cd S c i k) c
  | 0, _, _, _, P => P
  | k + 1, i, S, hi, P => by
    rw [y_cd]
    refine yP_cd k (i + 1) _ (by omega) ?_
    split
    · next e1 => exact yP_co P (by omega) e1.1 (by have := P.2.2.1.1; omega)
    · exact P
theorem y_cob_rng {S : zS} {o : Int} : 0 ≤ y_cob S o ∧ y_cob S o ≤ 1 := by
  unfold y_cob
  split
  · omega
  · split <;> omega
theorem y_cdn_rng {c : Nat} : ∀ (k i : Nat) (S : zS), 0 ≤ y_cdn S c i k ∧ y_cdn S c i k ≤ k
  | 0, _, _ => by simp [y_cdn]
  | k + 1, i, S => by
    have h := y_cdn_rng (c := c) k (i + 1) (if S.2.1 48 i = 1 ∧ S.2.1 53 i = S.1 6 then y_co S c i else S)
    have h2 := y_cob_rng (S := S) (o := i)
    rw [y_cdn]
    by_cases e : S.2.1 48 i = 1 ∧ S.2.1 53 i = S.1 6
    · rw [if_pos e] at h
      rw [if_pos e, if_pos e]
      omega
    · rw [if_neg e] at h
      rw [if_neg e, if_neg e]
      omega
theorem l_X7_pass_in {Q : zQ} {c : Nat} {m kk : Int} : ∀ (k i : Nat) (S : zS) (d : Int), i + k = c → yP S c → (y_cd S c i k).1 8 ≤ 4000 → 0 ≤ d ∧ d ≤ 6000 + i → z_G mX7_pass (z_F mX7_pass Q) 0 121 [some (zR 7), some (zI m), some (zI (d + y_cdn S c i k)), some (zI kk), some (zI (c : Int))] [] (y_cd S c i k) → z_G mX7_pass (z_F mX7_pass Q) 0 64 [some (zR 7), some (zI m), some (zI d), some (zI kk), some (zI (i : Int))] [] S := by
  intro k
  induction k with
  | zero =>
    intro i S d hi P h2 hd hk
    have hc : S.1 7 = c := P.1
    rw [y_cdn, Int.add_zero, y_cd] at hk
    have e : i = c := by omega
    subst e
    refine g_iload (q := 66) dX7_pass_64 rfl rfl ?_
    refine g_aload_n (i := 0) (q := 67) dX7_pass_66 rfl rfl rfl ?_
    refine g_getv (q := 70) (z := S.1 7) dX7_pass_67 rfl fk_X7_88 rfl rfl rfl ?_
    refine g_icmp_ge (t := 121) (q := 73) dX7_pass_70 (by decide) rfl (fun h70 => ?_) (fun h70 => (False.elim (by omega)))
    exact hk
  | succ k ih =>
    intro i S d hi P h2 hd hk
    have hc : S.1 7 = c := P.1
    have h60 := P.2.1
    have hnow := P.2.2.1.1
    rw [y_cdn, y_cd] at hk
    rw [y_cd] at h2
    by_cases e1 : S.2.1 48 i = 1 ∧ S.2.1 53 i = S.1 6
    · rw [if_pos e1] at h2
      rw [if_pos e1, if_pos e1] at hk
      have hm := y_cd_mono (c := c) k (i + 1) (y_co S c i)
      have hbr := y_cob_rng (S := S) (o := i)
      by_cases e2 : y_cob S i = 0
      · skip
        refine g_iload (q := 66) dX7_pass_64 rfl rfl ?_
        refine g_aload_n (i := 0) (q := 67) dX7_pass_66 rfl rfl rfl ?_
        refine g_getv (q := 70) (z := S.1 7) dX7_pass_67 rfl fk_X7_88 rfl rfl rfl ?_
        refine g_icmp_ge (t := 121) (q := 73) dX7_pass_70 (by decide) rfl (fun h70 => (False.elim (by omega))) (fun h70 => ?_)
        refine g_iload_n (i := 2) (q := 74) dX7_pass_73 rfl rfl rfl ?_
        refine g_aload_n (i := 0) (q := 75) dX7_pass_74 rfl rfl rfl ?_
        refine g_getr (q := 78) dX7_pass_75 rfl fk_X7_35 rfl rfl ?_
        refine g_iload (q := 80) dX7_pass_78 rfl rfl ?_
        refine g_ildv (q := 81) (z := S.2.1 48 (i : Int)) dX7_pass_80 rfl ⟨by decide, rfl, rfl⟩ (by omega) (by omega) rfl ?_
        refine g_iconst (q := 82) dX7_pass_81 rfl ⟨by decide, by decide⟩ ?_
        refine g_icmp_ne (t := 112) (q := 85) dX7_pass_82 (by decide) rfl (fun h82 => (False.elim (by omega))) (fun h82 => ?_)
        refine g_aload_n (i := 0) (q := 86) dX7_pass_85 rfl rfl rfl ?_
        refine g_getr (q := 89) dX7_pass_86 rfl fk_X7_50 rfl rfl ?_
        refine g_iload (q := 91) dX7_pass_89 rfl rfl ?_
        refine g_ildv (q := 92) (z := S.2.1 53 (i : Int)) dX7_pass_91 rfl ⟨by decide, rfl, rfl⟩ (by omega) (by omega) rfl ?_
        refine g_aload_n (i := 0) (q := 93) dX7_pass_92 rfl rfl rfl ?_
        refine g_getv (q := 96) (z := S.1 6) dX7_pass_93 rfl fk_X7_91 rfl rfl rfl ?_
        refine g_icmp_ne (t := 112) (q := 99) dX7_pass_96 (by decide) rfl (fun h96 => (False.elim (by omega))) (fun h96 => ?_)
        refine g_aload_n (i := 0) (q := 100) dX7_pass_99 rfl rfl rfl ?_
        refine g_iload (q := 102) dX7_pass_100 rfl rfl ?_
        refine g_fnV (as := [zI (i : Int)]) (q := 105) (u' := 0) dX7_pass_102 rfl ck_X7_160 rfl rfl rfl (Nat.le_of_ble_eq_true rfl) (by decide) rfl (by decide) (t_comes P (by omega) e1.1 (by omega) (by omega)) rfl ?_
        refine g_if_eq (t := 112) (q := 108) dX7_pass_105 (by decide) rfl (fun h105 => ?_) (fun h105 => (False.elim (by omega)))
        refine g_iconst (q := 113) dX7_pass_112 rfl ⟨by decide, by decide⟩ ?_
        refine g_iadd (q := 114) dX7_pass_113 rfl (by constructor <;> omega) ?_
        refine g_istore_n (i := 2) (q := 115) dX7_pass_114 rfl rfl (by decide) ?_
        refine g_iinc (q := 118) (i := 4) (n := 1) dX7_pass_115 rfl rfl (by constructor <;> omega) ?_
        refine g_goto (q := 0) (t := 64) dX7_pass_118 (by decide) ?_
        exact ih (i + 1) _ _ (by omega) (yP_co P (by omega) e1.1 (by omega)) h2 (by omega) (by rw [Int.add_assoc, ← e2]; exact hk)
      · have e3 : y_cob S i = 1 := by omega
        refine g_iload (q := 66) dX7_pass_64 rfl rfl ?_
        refine g_aload_n (i := 0) (q := 67) dX7_pass_66 rfl rfl rfl ?_
        refine g_getv (q := 70) (z := S.1 7) dX7_pass_67 rfl fk_X7_88 rfl rfl rfl ?_
        refine g_icmp_ge (t := 121) (q := 73) dX7_pass_70 (by decide) rfl (fun h70 => (False.elim (by omega))) (fun h70 => ?_)
        refine g_iload_n (i := 2) (q := 74) dX7_pass_73 rfl rfl rfl ?_
        refine g_aload_n (i := 0) (q := 75) dX7_pass_74 rfl rfl rfl ?_
        refine g_getr (q := 78) dX7_pass_75 rfl fk_X7_35 rfl rfl ?_
        refine g_iload (q := 80) dX7_pass_78 rfl rfl ?_
        refine g_ildv (q := 81) (z := S.2.1 48 (i : Int)) dX7_pass_80 rfl ⟨by decide, rfl, rfl⟩ (by omega) (by omega) rfl ?_
        refine g_iconst (q := 82) dX7_pass_81 rfl ⟨by decide, by decide⟩ ?_
        refine g_icmp_ne (t := 112) (q := 85) dX7_pass_82 (by decide) rfl (fun h82 => (False.elim (by omega))) (fun h82 => ?_)
        refine g_aload_n (i := 0) (q := 86) dX7_pass_85 rfl rfl rfl ?_
        refine g_getr (q := 89) dX7_pass_86 rfl fk_X7_50 rfl rfl ?_
        refine g_iload (q := 91) dX7_pass_89 rfl rfl ?_
        refine g_ildv (q := 92) (z := S.2.1 53 (i : Int)) dX7_pass_91 rfl ⟨by decide, rfl, rfl⟩ (by omega) (by omega) rfl ?_
        refine g_aload_n (i := 0) (q := 93) dX7_pass_92 rfl rfl rfl ?_
        refine g_getv (q := 96) (z := S.1 6) dX7_pass_93 rfl fk_X7_91 rfl rfl rfl ?_
        refine g_icmp_ne (t := 112) (q := 99) dX7_pass_96 (by decide) rfl (fun h96 => (False.elim (by omega))) (fun h96 => ?_)
        refine g_aload_n (i := 0) (q := 100) dX7_pass_99 rfl rfl rfl ?_
        refine g_iload (q := 102) dX7_pass_100 rfl rfl ?_
        refine g_fnV (as := [zI (i : Int)]) (q := 105) (u' := 0) dX7_pass_102 rfl ck_X7_160 rfl rfl rfl (Nat.le_of_ble_eq_true rfl) (by decide) rfl (by decide) (t_comes P (by omega) e1.1 (by omega) (by omega)) rfl ?_
        refine g_if_eq (t := 112) (q := 108) dX7_pass_105 (by decide) rfl (fun h105 => (False.elim (by omega))) (fun h105 => ?_)
        refine g_iconst (q := 109) dX7_pass_108 rfl ⟨by decide, by decide⟩ ?_
        refine g_goto (q := 0) (t := 113) dX7_pass_109 (by decide) ?_
        refine g_iadd (q := 114) dX7_pass_113 rfl (by constructor <;> omega) ?_
        refine g_istore_n (i := 2) (q := 115) dX7_pass_114 rfl rfl (by decide) ?_
        refine g_iinc (q := 118) (i := 4) (n := 1) dX7_pass_115 rfl rfl (by constructor <;> omega) ?_
        refine g_goto (q := 0) (t := 64) dX7_pass_118 (by decide) ?_
        exact ih (i + 1) _ _ (by omega) (yP_co P (by omega) e1.1 (by omega)) h2 (by omega) (by rw [Int.add_assoc, ← e3]; exact hk)
    · rw [if_neg e1] at h2
      rw [if_neg e1, if_neg e1] at hk
      refine g_iload (q := 66) dX7_pass_64 rfl rfl ?_
      refine g_aload_n (i := 0) (q := 67) dX7_pass_66 rfl rfl rfl ?_
      refine g_getv (q := 70) (z := S.1 7) dX7_pass_67 rfl fk_X7_88 rfl rfl rfl ?_
      refine g_icmp_ge (t := 121) (q := 73) dX7_pass_70 (by decide) rfl (fun h70 => (False.elim (by omega))) (fun h70 => ?_)
      refine g_iload_n (i := 2) (q := 74) dX7_pass_73 rfl rfl rfl ?_
      refine g_aload_n (i := 0) (q := 75) dX7_pass_74 rfl rfl rfl ?_
      refine g_getr (q := 78) dX7_pass_75 rfl fk_X7_35 rfl rfl ?_
      refine g_iload (q := 80) dX7_pass_78 rfl rfl ?_
      refine g_ildv (q := 81) (z := S.2.1 48 (i : Int)) dX7_pass_80 rfl ⟨by decide, rfl, rfl⟩ (by omega) (by omega) rfl ?_
      refine g_iconst (q := 82) dX7_pass_81 rfl ⟨by decide, by decide⟩ ?_
      refine g_icmp_ne (t := 112) (q := 85) dX7_pass_82 (by decide) rfl (fun h82 => ?_) (fun h82 => ?_)
      · refine g_iconst (q := 113) dX7_pass_112 rfl ⟨by decide, by decide⟩ ?_
        refine g_iadd (q := 114) dX7_pass_113 rfl (by constructor <;> omega) ?_
        refine g_istore_n (i := 2) (q := 115) dX7_pass_114 rfl rfl (by decide) ?_
        refine g_iinc (q := 118) (i := 4) (n := 1) dX7_pass_115 rfl rfl (by constructor <;> omega) ?_
        refine g_goto (q := 0) (t := 64) dX7_pass_118 (by decide) ?_
        exact ih (i + 1) _ _ (by omega) P h2 (by omega) (by rw [Int.add_assoc]; exact hk)
      · refine g_aload_n (i := 0) (q := 86) dX7_pass_85 rfl rfl rfl ?_
        refine g_getr (q := 89) dX7_pass_86 rfl fk_X7_50 rfl rfl ?_
        refine g_iload (q := 91) dX7_pass_89 rfl rfl ?_
        refine g_ildv (q := 92) (z := S.2.1 53 (i : Int)) dX7_pass_91 rfl ⟨by decide, rfl, rfl⟩ (by omega) (by omega) rfl ?_
        refine g_aload_n (i := 0) (q := 93) dX7_pass_92 rfl rfl rfl ?_
        refine g_getv (q := 96) (z := S.1 6) dX7_pass_93 rfl fk_X7_91 rfl rfl rfl ?_
        refine g_icmp_ne (t := 112) (q := 99) dX7_pass_96 (by decide) rfl (fun h96 => ?_) (fun h96 => ?_)
        · refine g_iconst (q := 113) dX7_pass_112 rfl ⟨by decide, by decide⟩ ?_
          refine g_iadd (q := 114) dX7_pass_113 rfl (by constructor <;> omega) ?_
          refine g_istore_n (i := 2) (q := 115) dX7_pass_114 rfl rfl (by decide) ?_
          refine g_iinc (q := 118) (i := 4) (n := 1) dX7_pass_115 rfl rfl (by constructor <;> omega) ?_
          refine g_goto (q := 0) (t := 64) dX7_pass_118 (by decide) ?_
          exact ih (i + 1) _ _ (by omega) P h2 (by omega) (by rw [Int.add_assoc]; exact hk)
        · exact absurd ⟨by omega, by omega⟩ e1
/-! a firm learns -/
def y_ln (S : zS) (f : Int) : Nat → zS
  | 0 => S
  | k + 1 => if S.2.1 55 (S.2.1 58 f) ≤ S.1 6 - S.2.1 59 f then y_ln (z_sA S 58 f (S.2.1 58 f + 1)) f k else S
theorem y_ln_fr {f : Int} : ∀ (k : Nat) (S : zS), (y_ln S f k).1 = S.1 ∧ (∀ q j, q ≠ 58 → (y_ln S f k).2.1 q j = S.2.1 q j) ∧ (∀ j, j ≠ f → (y_ln S f k).2.1 58 j = S.2.1 58 j) ∧ (S.2.1 58 f ≤ (y_ln S f k).2.1 58 f ∧ (y_ln S f k).2.1 58 f ≤ S.2.1 58 f + k) ∧ (y_ln S f k).2.2 = S.2.2
  | 0, S => ⟨rfl, fun _ _ _ => rfl, fun _ _ => rfl, ⟨Int.le_refl _, by rw [y_ln]; omega⟩, rfl⟩
  | k + 1, S => by
    rw [y_ln]
    split
    · obtain ⟨h1, h2, h3, h4, h5⟩ := y_ln_fr (f := f) k (z_sA S 58 f (S.2.1 58 f + 1))
      rw [za_eq] at h4
      refine ⟨h1, fun q j a => by rw [h2 q j a, za_ne a], fun j h => by rw [h3 j h, za_ni h], ⟨by omega, by omega⟩, h5⟩
    · exact ⟨rfl, fun _ _ _ => rfl, fun _ _ => rfl, ⟨Int.le_refl _, by omega⟩, rfl⟩
def y_le1 (S : zS) (f : Int) : zS := if S.2.1 60 f = 0 then y_ln S f (S.1 8 - S.2.1 58 f).toNat else S
def y_le (S : zS) : Nat → Nat → zS
  | _, 0 => S
  | i, k + 1 => y_le (y_le1 S i) (i + 1) k
theorem yP_le1 {S : zS} {c : Nat} {f : Int} (P : yP S c) (hf : 0 ≤ f ∧ f < 6) : yP (y_le1 S f) c ∧ (y_le1 S f).1 = S.1 := by
  unfold y_le1
  split
  · obtain ⟨hc, h60, hM, hc2, hO, hN, hF⟩ := P
    have hff := hF f hf.1 hf.2
    obtain ⟨a1, a2, a3, a4, -⟩ := y_ln_fr (f := f) (S.1 8 - S.2.1 58 f).toNat S
    generalize y_ln S f (S.1 8 - S.2.1 58 f).toNat = T at a1 a2 a3 a4
    refine ⟨⟨by rw [a1]; exact hc, h60, ⟨by rw [a1]; exact hM.1, fun n a b => ?_⟩, by rw [a1]; exact hc2, fun o x y => ?_, fun n x y => ?_, fun g x y => ?_⟩, a1⟩
    · rw [a2 44 n (by omega), a2 45 n (by omega), a2 46 n (by omega)]
      exact hM.2 n a b
    · rw [a2 50 o (by omega), a2 51 o (by omega), a2 53 o (by omega), a2 48 o (by omega), a2 42 _ (by omega)]
      exact hO o x y
    · rw [a2 42 n (by omega)]
      exact hN n x y
    · rw [a1, a2 59 g (by omega)]
      have hg := hF g x y
      by_cases hgf : g = f
      · subst hgf
        exact ⟨by omega, by omega, hg.2.2⟩
      · rw [a3 g hgf]
        exact hg
  · exact ⟨P, rfl⟩
theorem l_X7_learns_in {Q : zQ} {i : Nat} (hi : i < 6) {ch : Nat} (h4 : ch ≤ 4000) : ∀ (k : Nat) (S : zS), S.1 8 = ch → S.2.1 58 i + k = ch → 0 ≤ S.2.1 58 i → S.2.1 60 i = 0 → (0 ≤ S.1 6 ∧ S.1 6 ≤ 9999) → (0 ≤ S.2.1 59 i ∧ S.2.1 59 i ≤ 50) → z_G mX7_learns (z_F mX7_learns Q) 0 68 [some (zR 7), some (zI (i : Int))] [] (y_ln S i k) → z_G mX7_learns (z_F mX7_learns Q) 0 8 [some (zR 7), some (zI (i : Int))] [] S := by
  intro k
  induction k with
  | zero =>
    intro S hch hkn h0 hd hnow hlag hk
    rw [y_ln] at hk
    refine g_aload_n (i := 0) (q := 9) dX7_learns_8 rfl rfl rfl ?_
    refine g_getr (q := 12) dX7_learns_9 rfl fk_X7_71 rfl rfl ?_
    refine g_iload_n (i := 1) (q := 13) dX7_learns_12 rfl rfl rfl ?_
    refine g_zldv (q := 14) (z := S.2.1 60 (i : Int)) dX7_learns_13 rfl ⟨by decide, rfl, rfl⟩ (by omega) (by omega) rfl ?_
    refine g_if_ne (t := 68) (q := 17) dX7_learns_14 (by decide) rfl (fun h14 => (False.elim (by omega))) (fun h14 => ?_)
    refine g_aload_n (i := 0) (q := 18) dX7_learns_17 rfl rfl rfl ?_
    refine g_getr (q := 21) dX7_learns_18 rfl fk_X7_65 rfl rfl ?_
    refine g_iload_n (i := 1) (q := 22) dX7_learns_21 rfl rfl rfl ?_
    refine g_ildv (q := 23) (z := S.2.1 58 (i : Int)) dX7_learns_22 rfl ⟨by decide, rfl, rfl⟩ (by omega) (by omega) rfl ?_
    refine g_aload_n (i := 0) (q := 24) dX7_learns_23 rfl rfl rfl ?_
    refine g_getv (q := 27) (z := S.1 8) dX7_learns_24 rfl fk_X7_117 rfl rfl rfl ?_
    refine g_icmp_ge (t := 68) (q := 30) dX7_learns_27 (by decide) rfl (fun h27 => ?_) (fun h27 => (False.elim (by omega)))
    exact hk
  | succ k ih =>
    intro S hch hkn h0 hd hnow hlag hk
    rw [y_ln] at hk
    by_cases e1 : S.2.1 55 (S.2.1 58 i) ≤ S.1 6 - S.2.1 59 i
    · rw [if_pos e1] at hk
      refine g_aload_n (i := 0) (q := 9) dX7_learns_8 rfl rfl rfl ?_
      refine g_getr (q := 12) dX7_learns_9 rfl fk_X7_71 rfl rfl ?_
      refine g_iload_n (i := 1) (q := 13) dX7_learns_12 rfl rfl rfl ?_
      refine g_zldv (q := 14) (z := S.2.1 60 (i : Int)) dX7_learns_13 rfl ⟨by decide, rfl, rfl⟩ (by omega) (by omega) rfl ?_
      refine g_if_ne (t := 68) (q := 17) dX7_learns_14 (by decide) rfl (fun h14 => (False.elim (by omega))) (fun h14 => ?_)
      refine g_aload_n (i := 0) (q := 18) dX7_learns_17 rfl rfl rfl ?_
      refine g_getr (q := 21) dX7_learns_18 rfl fk_X7_65 rfl rfl ?_
      refine g_iload_n (i := 1) (q := 22) dX7_learns_21 rfl rfl rfl ?_
      refine g_ildv (q := 23) (z := S.2.1 58 (i : Int)) dX7_learns_22 rfl ⟨by decide, rfl, rfl⟩ (by omega) (by omega) rfl ?_
      refine g_aload_n (i := 0) (q := 24) dX7_learns_23 rfl rfl rfl ?_
      refine g_getv (q := 27) (z := S.1 8) dX7_learns_24 rfl fk_X7_117 rfl rfl rfl ?_
      refine g_icmp_ge (t := 68) (q := 30) dX7_learns_27 (by decide) rfl (fun h27 => (False.elim (by omega))) (fun h27 => ?_)
      refine g_aload_n (i := 0) (q := 31) dX7_learns_30 rfl rfl rfl ?_
      refine g_getr (q := 34) dX7_learns_31 rfl fk_X7_56 rfl rfl ?_
      refine g_aload_n (i := 0) (q := 35) dX7_learns_34 rfl rfl rfl ?_
      refine g_getr (q := 38) dX7_learns_35 rfl fk_X7_65 rfl rfl ?_
      refine g_iload_n (i := 1) (q := 39) dX7_learns_38 rfl rfl rfl ?_
      refine g_ildv (q := 40) (z := S.2.1 58 (i : Int)) dX7_learns_39 rfl ⟨by decide, rfl, rfl⟩ (by omega) (by omega) rfl ?_
      refine g_ildv (q := 41) (z := S.2.1 55 (S.2.1 58 (i : Int))) dX7_learns_40 rfl ⟨by decide, rfl, rfl⟩ (by omega) (by omega) rfl ?_
      refine g_aload_n (i := 0) (q := 42) dX7_learns_41 rfl rfl rfl ?_
      refine g_getv (q := 45) (z := S.1 6) dX7_learns_42 rfl fk_X7_91 rfl rfl rfl ?_
      refine g_aload_n (i := 0) (q := 46) dX7_learns_45 rfl rfl rfl ?_
      refine g_getr (q := 49) dX7_learns_46 rfl fk_X7_68 rfl rfl ?_
      refine g_iload_n (i := 1) (q := 50) dX7_learns_49 rfl rfl rfl ?_
      refine g_ildv (q := 51) (z := S.2.1 59 (i : Int)) dX7_learns_50 rfl ⟨by decide, rfl, rfl⟩ (by omega) (by omega) rfl ?_
      refine g_isub (q := 52) dX7_learns_51 rfl (by constructor <;> omega) ?_
      refine g_icmp_gt (t := 68) (q := 55) dX7_learns_52 (by decide) rfl (fun h52 => (False.elim (by omega))) (fun h52 => ?_)
      refine g_aload_n (i := 0) (q := 56) dX7_learns_55 rfl rfl rfl ?_
      refine g_getr (q := 59) dX7_learns_56 rfl fk_X7_65 rfl rfl ?_
      refine g_iload_n (i := 1) (q := 60) dX7_learns_59 rfl rfl rfl ?_
      refine g_dup2 (q := 61) dX7_learns_60 rfl trivial trivial ?_
      refine g_ildv (q := 62) (z := S.2.1 58 (i : Int)) dX7_learns_61 rfl ⟨by decide, rfl, rfl⟩ (by omega) (by omega) rfl ?_
      refine g_iconst (q := 63) dX7_learns_62 rfl ⟨by decide, by decide⟩ ?_
      refine g_iadd (q := 64) dX7_learns_63 rfl (by constructor <;> omega) ?_
      refine g_iast (q := 65) dX7_learns_64 rfl ⟨by decide, rfl, rfl⟩ (by omega) (by omega) ?_
      refine g_goto (q := 0) (t := 8) dX7_learns_65 (by decide) ?_
      exact ih _ hch (by rw [za_eq]; omega) (by rw [za_eq]; omega) (by rw [za_ne (by omega)]; exact hd) hnow (by rw [za_ne (by omega)]; exact hlag) hk
    · rw [if_neg e1] at hk
      refine g_aload_n (i := 0) (q := 9) dX7_learns_8 rfl rfl rfl ?_
      refine g_getr (q := 12) dX7_learns_9 rfl fk_X7_71 rfl rfl ?_
      refine g_iload_n (i := 1) (q := 13) dX7_learns_12 rfl rfl rfl ?_
      refine g_zldv (q := 14) (z := S.2.1 60 (i : Int)) dX7_learns_13 rfl ⟨by decide, rfl, rfl⟩ (by omega) (by omega) rfl ?_
      refine g_if_ne (t := 68) (q := 17) dX7_learns_14 (by decide) rfl (fun h14 => (False.elim (by omega))) (fun h14 => ?_)
      refine g_aload_n (i := 0) (q := 18) dX7_learns_17 rfl rfl rfl ?_
      refine g_getr (q := 21) dX7_learns_18 rfl fk_X7_65 rfl rfl ?_
      refine g_iload_n (i := 1) (q := 22) dX7_learns_21 rfl rfl rfl ?_
      refine g_ildv (q := 23) (z := S.2.1 58 (i : Int)) dX7_learns_22 rfl ⟨by decide, rfl, rfl⟩ (by omega) (by omega) rfl ?_
      refine g_aload_n (i := 0) (q := 24) dX7_learns_23 rfl rfl rfl ?_
      refine g_getv (q := 27) (z := S.1 8) dX7_learns_24 rfl fk_X7_117 rfl rfl rfl ?_
      refine g_icmp_ge (t := 68) (q := 30) dX7_learns_27 (by decide) rfl (fun h27 => (False.elim (by omega))) (fun h27 => ?_)
      refine g_aload_n (i := 0) (q := 31) dX7_learns_30 rfl rfl rfl ?_
      refine g_getr (q := 34) dX7_learns_31 rfl fk_X7_56 rfl rfl ?_
      refine g_aload_n (i := 0) (q := 35) dX7_learns_34 rfl rfl rfl ?_
      refine g_getr (q := 38) dX7_learns_35 rfl fk_X7_65 rfl rfl ?_
      refine g_iload_n (i := 1) (q := 39) dX7_learns_38 rfl rfl rfl ?_
      refine g_ildv (q := 40) (z := S.2.1 58 (i : Int)) dX7_learns_39 rfl ⟨by decide, rfl, rfl⟩ (by omega) (by omega) rfl ?_
      refine g_ildv (q := 41) (z := S.2.1 55 (S.2.1 58 (i : Int))) dX7_learns_40 rfl ⟨by decide, rfl, rfl⟩ (by omega) (by omega) rfl ?_
      refine g_aload_n (i := 0) (q := 42) dX7_learns_41 rfl rfl rfl ?_
      refine g_getv (q := 45) (z := S.1 6) dX7_learns_42 rfl fk_X7_91 rfl rfl rfl ?_
      refine g_aload_n (i := 0) (q := 46) dX7_learns_45 rfl rfl rfl ?_
      refine g_getr (q := 49) dX7_learns_46 rfl fk_X7_68 rfl rfl ?_
      refine g_iload_n (i := 1) (q := 50) dX7_learns_49 rfl rfl rfl ?_
      refine g_ildv (q := 51) (z := S.2.1 59 (i : Int)) dX7_learns_50 rfl ⟨by decide, rfl, rfl⟩ (by omega) (by omega) rfl ?_
      refine g_isub (q := 52) dX7_learns_51 rfl (by constructor <;> omega) ?_
      refine g_icmp_gt (t := 68) (q := 55) dX7_learns_52 (by decide) rfl (fun h52 => ?_) (fun h52 => (False.elim (by omega)))
      exact hk
theorem l_X7_learns {Q : zQ} {c : Nat} : ∀ (k i : Nat) (S : zS), i + k = 6 → yP S c → S.1 8 ≤ 4000 → Q (.ok none) (y_le S i k) → z_G mX7_learns (z_F mX7_learns Q) 0 2 [some (zR 7), some (zI (i : Int))] [] S := by
  intro k
  induction k with
  | zero =>
    intro i S hi P h4 hQ
    refine g_iload_n (i := 1) (q := 3) dX7_learns_2 rfl rfl rfl ?_
    refine g_bipush (q := 5) dX7_learns_3 rfl ⟨by decide, by decide⟩ (by decide) ?_
    refine g_icmp_ge (t := 74) (q := 8) dX7_learns_5 (by decide) rfl (fun h5 => ?_) (fun h5 => (False.elim (by omega)))
    exact g_retv dX7_learns_74 rfl (by decide) hQ
  | succ k ih =>
    intro i S hi P h4 hQ
    rw [y_le] at hQ
    have hP1 := yP_le1 P (f := (i : Int)) (by omega)
    have hff := P.2.2.2.2.2.2 (i : Int) (by omega) (by omega)
    have hnow := P.2.2.1.1
    have hnx := ih (i + 1) (y_le1 S i) (by omega) hP1.1 (by rw [hP1.2]; exact h4) hQ
    by_cases e1 : S.2.1 60 i = 0
    · have e : y_le1 S i = y_ln S i (S.1 8 - S.2.1 58 i).toNat := by unfold y_le1; rw [if_pos e1]
      rw [e] at hnx
      refine g_iload_n (i := 1) (q := 3) dX7_learns_2 rfl rfl rfl ?_
      refine g_bipush (q := 5) dX7_learns_3 rfl ⟨by decide, by decide⟩ (by decide) ?_
      refine g_icmp_ge (t := 74) (q := 8) dX7_learns_5 (by decide) rfl (fun h5 => (False.elim (by omega))) (fun h5 => ?_)
      refine l_X7_learns_in (by omega) (ch := (S.1 8).toNat) (by omega) (S.1 8 - S.2.1 58 i).toNat S (by omega) (by omega) hff.1 e1 hnow hff.2.2 ?_
      refine g_iinc (q := 71) (i := 1) (n := 1) dX7_learns_68 rfl rfl (by constructor <;> omega) ?_
      refine g_goto (q := 0) (t := 2) dX7_learns_71 (by decide) ?_
      exact hnx
    · have e : y_le1 S i = S := by unfold y_le1; rw [if_neg e1]
      rw [e] at hnx
      refine g_iload_n (i := 1) (q := 3) dX7_learns_2 rfl rfl rfl ?_
      refine g_bipush (q := 5) dX7_learns_3 rfl ⟨by decide, by decide⟩ (by decide) ?_
      refine g_icmp_ge (t := 74) (q := 8) dX7_learns_5 (by decide) rfl (fun h5 => (False.elim (by omega))) (fun h5 => ?_)
      refine g_aload_n (i := 0) (q := 9) dX7_learns_8 rfl rfl rfl ?_
      refine g_getr (q := 12) dX7_learns_9 rfl fk_X7_71 rfl rfl ?_
      refine g_iload_n (i := 1) (q := 13) dX7_learns_12 rfl rfl rfl ?_
      refine g_zldv (q := 14) (z := S.2.1 60 (i : Int)) dX7_learns_13 rfl ⟨by decide, rfl, rfl⟩ (by omega) (by omega) rfl ?_
      refine g_if_ne (t := 68) (q := 17) dX7_learns_14 (by decide) rfl (fun h14 => ?_) (fun h14 => (False.elim (by omega)))
      refine g_iinc (q := 71) (i := 1) (n := 1) dX7_learns_68 rfl rfl (by constructor <;> omega) ?_
      refine g_goto (q := 0) (t := 2) dX7_learns_71 (by decide) ?_
      exact hnx
theorem t_learns {S : zS} {c : Nat} (P : yP S c) (h4 : S.1 8 ≤ 4000) : z_Fn mX7_learns [zR 7] S none (y_le S 0 6) := by
  refine z_enter (by decide +kernel) rfl (z_n1 trivial z_n0) (Nat.le_of_ble_eq_true rfl) ?_
  refine g_iconst (q := 1) dX7_learns_0 rfl ⟨by decide, by decide⟩ ?_
  refine g_istore_n (i := 1) (q := 2) dX7_learns_1 rfl rfl (by decide) ?_
  exact l_X7_learns 6 0 S (by omega) P h4 ⟨rfl, rfl⟩
theorem yP_le {c : Nat} : ∀ (k i : Nat) (S : zS), i + k = 6 → yP S c → yP (y_le S i k) c ∧ (y_le S i k).1 = S.1
  | 0, _, _, _, P => ⟨P, rfl⟩
  | k + 1, i, S, hi, P => by
    rw [y_le]
    have h1 := yP_le1 P (f := (i : Int)) (by omega)
    have h2 := yP_le (c := c) k (i + 1) (y_le1 S i) (by omega) h1.1
    exact ⟨h2.1, h2.2.trans h1.2⟩
/-- one minute -/
def y_min (S : zS) (c : Nat) : zS := y_le (y_cd (z_sS S 6 (S.1 6 + 1)) c 0 c) 0 6
def y_minn (S : zS) (c : Nat) : Int := y_cdn (z_sS S 6 (S.1 6 + 1)) c 0 c
def y_ps (S : zS) (c : Nat) : Nat → zS
  | 0 => S
  | k + 1 => y_ps (y_min S c) c k
def y_psn (S : zS) (c : Nat) : Nat → Int
  | 0 => 0
  | k + 1 => y_minn S c + y_psn (y_min S c) c k
theorem yP_tick {S : zS} {c : Nat} (P : yP S c) (h : S.1 6 < 9999) : yP (z_sS S 6 (S.1 6 + 1)) c := by
  obtain ⟨hc, h60, hM, hc2, hO, hN, hF⟩ := P
  have h1 := hM.1
  exact ⟨hc, h60, ⟨show 0 ≤ S.1 6 + 1 ∧ S.1 6 + 1 ≤ 9999 by omega, hM.2⟩, hc2, hO, hN, hF⟩
theorem yP_min {S : zS} {c : Nat} (P : yP S c) (h : S.1 6 < 9999) : yP (y_min S c) c ∧ (y_min S c).1 = (y_cd (z_sS S 6 (S.1 6 + 1)) c 0 c).1 := by
  have h1 := yP_cd c 0 _ (by omega) (yP_tick P h)
  exact yP_le (c := c) 6 0 _ (by omega) h1
theorem y_min_now {S : zS} {c : Nat} (P : yP S c) (h : S.1 6 < 9999) : (y_min S c).1 6 = S.1 6 + 1 := by
  rw [(yP_min P h).2, y_cd_now]
  rfl
theorem y_min_thr {S : zS} {c : Nat} (P : yP S c) (h : S.1 6 < 9999) : (y_min S c).1 5 = S.1 5 := by
  rw [(yP_min P h).2, y_cd_thr]
  rfl
theorem y_ps_mono {c : Nat} : ∀ (k : Nat) (S : zS), yP S c → S.1 6 + k ≤ 9999 → S.1 8 ≤ (y_ps S c k).1 8
  | 0, _, _, _ => Int.le_refl _
  | k + 1, S, P, h => by
    have hm := yP_min P (by omega)
    have h1 := y_ps_mono k (y_min S c) hm.1 (by rw [y_min_now P (by omega)]; omega)
    have h2 := y_cd_mono (c := c) c 0 (z_sS S 6 (S.1 6 + 1))
    rw [y_ps]
    exact Int.le_trans h2 (by rw [← hm.2]; exact h1)
theorem l_X7_pass {Q : zQ} {c : Nat} {m : Nat} (hm : m ≤ 100) : ∀ (k i : Nat) (S : zS) (d : Int), i + k = m → yP S c → S.1 5 = 0 → S.1 6 + k ≤ 9999 → (y_ps S c k).1 8 ≤ 4000 → 0 ≤ d ∧ d ≤ i * 60 → Q (.ok (some (zI (d + y_psn S c k)))) (y_ps S c k) → ∀ v4, z_G mX7_pass (z_F mX7_pass Q) 0 39 [some (zR 7), some (zI (m : Int)), some (zI d), some (zI (i : Int)), v4] [] S := by
  intro k
  induction k with
  | zero =>
    intro i S d hi P ht hn h2 hd hQ v4
    rw [y_psn, Int.add_zero] at hQ
    refine g_iload_n (i := 3) (q := 40) dX7_pass_39 rfl rfl rfl ?_
    refine g_iload_n (i := 1) (q := 41) dX7_pass_40 rfl rfl rfl ?_
    refine g_icmp_ge (t := 131) (q := 44) dX7_pass_41 (by decide) rfl (fun h41 => ?_) (fun h41 => (False.elim (by omega)))
    refine g_iload_n (i := 2) (q := 132) dX7_pass_131 rfl rfl rfl ?_
    exact g_ret dX7_pass_132 rfl (by decide) hQ
  | succ k ih =>
    intro i S d hi P ht hn h2 hd hQ v4
    rw [y_psn] at hQ
    rw [y_ps] at hQ h2
    have hmi := yP_min P (by omega)
    have hmn := y_min_now P (by omega)
    have hmt := y_min_thr P (by omega)
    have hmo := y_ps_mono k (y_min S c) hmi.1 (by omega)
    have h8 := congrFun hmi.2 8
    have hcd := yP_cd c 0 _ (by omega) (yP_tick P (by omega))
    have hnn := y_cdn_rng (c := c) c 0 (z_sS S 6 (S.1 6 + 1))
    have h60 := P.2.1
    have hnow := P.2.2.1.1
    have hnx := ih (i + 1) (y_min S c) (d + y_minn S c) (by omega) hmi.1 (hmt.trans ht) (by omega) h2 (by unfold y_minn; omega) (by rw [Int.add_assoc]; exact hQ)
    refine g_iload_n (i := 3) (q := 40) dX7_pass_39 rfl rfl rfl ?_
    refine g_iload_n (i := 1) (q := 41) dX7_pass_40 rfl rfl rfl ?_
    refine g_icmp_ge (t := 131) (q := 44) dX7_pass_41 (by decide) rfl (fun h41 => (False.elim (by omega))) (fun h41 => ?_)
    refine g_aload_n (i := 0) (q := 45) dX7_pass_44 rfl rfl rfl ?_
    refine g_getv (q := 48) (z := S.1 5) dX7_pass_45 rfl fk_X7_80 rfl rfl rfl ?_
    refine g_if_ne (t := 131) (q := 51) dX7_pass_48 (by decide) rfl (fun h48 => (False.elim (by omega))) (fun h48 => ?_)
    refine g_aload_n (i := 0) (q := 52) dX7_pass_51 rfl rfl rfl ?_
    refine g_dup (q := 53) dX7_pass_52 rfl trivial ?_
    refine g_getv (q := 56) (z := S.1 6) dX7_pass_53 rfl fk_X7_91 rfl rfl rfl ?_
    refine g_iconst (q := 57) dX7_pass_56 rfl ⟨by decide, by decide⟩ ?_
    refine g_iadd (q := 58) dX7_pass_57 rfl (by constructor <;> omega) ?_
    refine g_put (q := 61) dX7_pass_58 rfl fk_X7_91 fp_7_1 rfl rfl ?_
    refine g_iconst (q := 62) dX7_pass_61 rfl ⟨by decide, by decide⟩ ?_
    refine g_istore (q := 64) dX7_pass_62 rfl (by decide) ?_
    refine l_X7_pass_in (c := c) c 0 _ d (by omega) (yP_tick P (by omega)) (by omega) (by omega) ?_
    refine g_aload_n (i := 0) (q := 122) dX7_pass_121 rfl rfl rfl ?_
    refine g_fnV (as := []) (q := 125) (u' := 0) dX7_pass_122 rfl ck_X7_163 rfl rfl rfl (Nat.le_of_ble_eq_true rfl) (by decide) rfl (by decide) (t_learns hcd (by omega)) rfl ?_
    refine g_iinc (q := 128) (i := 3) (n := 1) dX7_pass_125 rfl rfl (by constructor <;> omega) ?_
    refine g_goto (q := 0) (t := 39) dX7_pass_128 (by decide) ?_
    exact hnx _
theorem t_pass_0 {S : zS} {c : Nat} {m : Int} (P : yP S c) (h1 : 1 ≤ m ∧ m ≤ 100) (h2 : S.1 6 + m ≤ 9999) (hC : (y_ps (z_sS S 5 0) c m.toNat).1 8 ≤ 4000) : z_Fn mX7_pass [zR 7, zI m] S (some (zI (y_psn (z_sS S 5 0) c m.toNat))) (y_ps (z_sS S 5 0) c m.toNat) := by
  have hnow := P.2.2.1.1
  have hT : yP (z_sS S 5 0) c := P
  obtain ⟨mm, rfl⟩ : ∃ mm : Nat, m = mm := ⟨m.toNat, by omega⟩
  rw [Int.toNat_natCast] at hC ⊢
  refine z_enter (by decide +kernel) rfl (z_n1 trivial (z_n1 trivial z_n0)) (Nat.le_of_ble_eq_true rfl) ?_
  refine g_aload_n (i := 0) (q := 1) dX7_pass_0 rfl rfl rfl ?_
  refine g_iload_n (i := 1) (q := 2) dX7_pass_1 rfl rfl rfl ?_
  refine g_iconst (q := 3) dX7_pass_2 rfl ⟨by decide, by decide⟩ ?_
  refine g_bipush (q := 5) dX7_pass_3 rfl ⟨by decide, by decide⟩ (by decide) ?_
  refine g_fnS (as := [zI (mm : Int), zI 1, zI 100]) (q := 8) (u' := 0) dX7_pass_5 rfl ck_X7_84 rfl rfl (Nat.le_of_ble_eq_true rfl) (by decide) rfl (by decide) (t_in_t (by omega)) rfl ?_
  refine g_if_ne (t := 15) (q := 11) dX7_pass_8 (by decide) rfl (fun h8 => ?_) (fun h8 => (False.elim (by omega)))
  refine g_aload_n (i := 0) (q := 16) dX7_pass_15 rfl rfl rfl ?_
  refine g_getv (q := 19) (z := S.1 6) dX7_pass_16 rfl fk_X7_91 rfl rfl rfl ?_
  refine g_iload_n (i := 1) (q := 20) dX7_pass_19 rfl rfl rfl ?_
  refine g_iadd (q := 21) dX7_pass_20 rfl (by constructor <;> omega) ?_
  refine g_sipush (q := 24) dX7_pass_21 rfl ⟨by decide, by decide⟩ (by decide) ?_
  refine g_icmp_le (t := 31) (q := 27) dX7_pass_24 (by decide) rfl (fun h24 => ?_) (fun h24 => (False.elim (by omega)))
  refine g_iconst (q := 32) dX7_pass_31 rfl ⟨by decide, by decide⟩ ?_
  refine g_put (q := 35) dX7_pass_32 rfl fk_X7_80 fp_7_0 rfl rfl ?_
  refine g_iconst (q := 36) dX7_pass_35 rfl ⟨by decide, by decide⟩ ?_
  refine g_istore_n (i := 2) (q := 37) dX7_pass_36 rfl rfl (by decide) ?_
  refine g_iconst (q := 38) dX7_pass_37 rfl ⟨by decide, by decide⟩ ?_
  refine g_istore_n (i := 3) (q := 39) dX7_pass_38 rfl rfl (by decide) ?_
  exact l_X7_pass (c := c) (by omega) mm 0 _ 0 (by omega) hT rfl (show S.1 6 + mm ≤ 9999 from h2) hC (by omega) ⟨by rw [Int.zero_add], rfl⟩ _
theorem t_pass_1 {S : zS} {m : Int} (h1 : ¬ (1 ≤ m ∧ m ≤ 100)) : z_Fn mX7_pass [zR 7, zI m] S (some (zI 0)) (z_sS S 5 1) := by
  refine z_enter (by decide +kernel) rfl (z_n1 trivial (z_n1 trivial z_n0)) (Nat.le_of_ble_eq_true rfl) ?_
  refine g_aload_n (i := 0) (q := 1) dX7_pass_0 rfl rfl rfl ?_
  refine g_iload_n (i := 1) (q := 2) dX7_pass_1 rfl rfl rfl ?_
  refine g_iconst (q := 3) dX7_pass_2 rfl ⟨by decide, by decide⟩ ?_
  refine g_bipush (q := 5) dX7_pass_3 rfl ⟨by decide, by decide⟩ (by decide) ?_
  refine g_fnS (as := [zI m, zI 1, zI 100]) (q := 8) (u' := 0) dX7_pass_5 rfl ck_X7_84 rfl rfl (Nat.le_of_ble_eq_true rfl) (by decide) rfl (by decide) (t_in_f (by omega)) rfl ?_
  refine g_if_ne (t := 15) (q := 11) dX7_pass_8 (by decide) rfl (fun h8 => (False.elim (by omega))) (fun h8 => ?_)
  refine g_iconst (q := 12) dX7_pass_11 rfl ⟨by decide, by decide⟩ ?_
  refine g_goto (q := 0) (t := 32) dX7_pass_12 (by decide) ?_
  refine g_put (q := 35) dX7_pass_32 rfl fk_X7_80 fp_7_0 rfl rfl ?_
  refine g_iconst (q := 36) dX7_pass_35 rfl ⟨by decide, by decide⟩ ?_
  refine g_istore_n (i := 2) (q := 37) dX7_pass_36 rfl rfl (by decide) ?_
  refine g_iconst (q := 38) dX7_pass_37 rfl ⟨by decide, by decide⟩ ?_
  refine g_istore_n (i := 3) (q := 39) dX7_pass_38 rfl rfl (by decide) ?_
  refine g_iload_n (i := 3) (q := 40) dX7_pass_39 rfl rfl rfl ?_
  refine g_iload_n (i := 1) (q := 41) dX7_pass_40 rfl rfl rfl ?_
  refine g_icmp_ge (t := 131) (q := 44) dX7_pass_41 (by decide) rfl (fun h41 => ?_) (fun h41 => ?_)
  · refine g_iload_n (i := 2) (q := 132) dX7_pass_131 rfl rfl rfl ?_
    exact g_ret dX7_pass_132 rfl (by decide) (by first | exact ⟨rfl, rfl⟩ | (exfalso; omega))
  · refine g_aload_n (i := 0) (q := 45) dX7_pass_44 rfl rfl rfl ?_
    refine g_getv (q := 48) (z := 1) dX7_pass_45 rfl fk_X7_80 rfl rfl rfl ?_
    refine g_if_ne (t := 131) (q := 51) dX7_pass_48 (by decide) rfl (fun h48 => ?_) (fun h48 => (False.elim (by omega)))
    refine g_iload_n (i := 2) (q := 132) dX7_pass_131 rfl rfl rfl ?_
    exact g_ret dX7_pass_132 rfl (by decide) (by first | exact ⟨rfl, rfl⟩ | (exfalso; omega))
theorem t_pass_2 {S : zS} {m : Int} (hnow : 0 ≤ S.1 6 ∧ S.1 6 ≤ 9999) (h1 : 1 ≤ m ∧ m ≤ 100) (h2 : ¬ S.1 6 + m ≤ 9999) : z_Fn mX7_pass [zR 7, zI m] S (some (zI 0)) (z_sS S 5 2) := by
  refine z_enter (by decide +kernel) rfl (z_n1 trivial (z_n1 trivial z_n0)) (Nat.le_of_ble_eq_true rfl) ?_
  refine g_aload_n (i := 0) (q := 1) dX7_pass_0 rfl rfl rfl ?_
  refine g_iload_n (i := 1) (q := 2) dX7_pass_1 rfl rfl rfl ?_
  refine g_iconst (q := 3) dX7_pass_2 rfl ⟨by decide, by decide⟩ ?_
  refine g_bipush (q := 5) dX7_pass_3 rfl ⟨by decide, by decide⟩ (by decide) ?_
  refine g_fnS (as := [zI m, zI 1, zI 100]) (q := 8) (u' := 0) dX7_pass_5 rfl ck_X7_84 rfl rfl (Nat.le_of_ble_eq_true rfl) (by decide) rfl (by decide) (t_in_t (by omega)) rfl ?_
  refine g_if_ne (t := 15) (q := 11) dX7_pass_8 (by decide) rfl (fun h8 => ?_) (fun h8 => (False.elim (by omega)))
  refine g_aload_n (i := 0) (q := 16) dX7_pass_15 rfl rfl rfl ?_
  refine g_getv (q := 19) (z := S.1 6) dX7_pass_16 rfl fk_X7_91 rfl rfl rfl ?_
  refine g_iload_n (i := 1) (q := 20) dX7_pass_19 rfl rfl rfl ?_
  refine g_iadd (q := 21) dX7_pass_20 rfl (by constructor <;> omega) ?_
  refine g_sipush (q := 24) dX7_pass_21 rfl ⟨by decide, by decide⟩ (by decide) ?_
  refine g_icmp_le (t := 31) (q := 27) dX7_pass_24 (by decide) rfl (fun h24 => (False.elim (by omega))) (fun h24 => ?_)
  refine g_iconst (q := 28) dX7_pass_27 rfl ⟨by decide, by decide⟩ ?_
  refine g_goto (q := 0) (t := 32) dX7_pass_28 (by decide) ?_
  refine g_put (q := 35) dX7_pass_32 rfl fk_X7_80 fp_7_0 rfl rfl ?_
  refine g_iconst (q := 36) dX7_pass_35 rfl ⟨by decide, by decide⟩ ?_
  refine g_istore_n (i := 2) (q := 37) dX7_pass_36 rfl rfl (by decide) ?_
  refine g_iconst (q := 38) dX7_pass_37 rfl ⟨by decide, by decide⟩ ?_
  refine g_istore_n (i := 3) (q := 39) dX7_pass_38 rfl rfl (by decide) ?_
  refine g_iload_n (i := 3) (q := 40) dX7_pass_39 rfl rfl rfl ?_
  refine g_iload_n (i := 1) (q := 41) dX7_pass_40 rfl rfl rfl ?_
  refine g_icmp_ge (t := 131) (q := 44) dX7_pass_41 (by decide) rfl (fun h41 => (False.elim (by omega))) (fun h41 => ?_)
  refine g_aload_n (i := 0) (q := 45) dX7_pass_44 rfl rfl rfl ?_
  refine g_getv (q := 48) (z := 2) dX7_pass_45 rfl fk_X7_80 rfl rfl rfl ?_
  refine g_if_ne (t := 131) (q := 51) dX7_pass_48 (by decide) rfl (fun h48 => ?_) (fun h48 => (False.elim (by omega)))
  refine g_iload_n (i := 2) (q := 132) dX7_pass_131 rfl rfl rfl ?_
  exact g_ret dX7_pass_132 rfl (by decide) (by first | exact ⟨rfl, rfl⟩ | (exfalso; omega))
