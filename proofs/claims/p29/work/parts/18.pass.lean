/-! ===== minutes ===== -/
/-- what holds of the class's rows while minutes go by -/
def xP (S : zS) (c : Nat) : Prop :=
  S.1 1 = c ∧ c ≤ 60 ∧ (0 ≤ S.1 0 ∧ S.1 0 ≤ 9999) ∧ 0 ≤ S.1 2 ∧ 0 ≤ S.1 3 ∧
  (∀ o : Int, 0 ≤ o → o < c → (0 ≤ S.2.1 21 o ∧ S.2.1 21 o < 200) ∧ (0 ≤ S.2.1 22 o ∧ S.2.1 22 o < 6) ∧ (0 ≤ S.2.1 24 o ∧ S.2.1 24 o ≤ 20000) ∧ (S.2.1 19 o = 1 → ¬ S.2.1 13 (S.2.1 21 o) = -1)) ∧
  (∀ n : Int, 0 ≤ n → n < 200 → -1 ≤ S.2.1 13 n ∧ S.2.1 13 n < 6) ∧
  (∀ j : Int, 0 ≤ j → j < S.1 2 → 0 ≤ S.2.1 26 j ∧ S.2.1 26 j < 200) ∧
  (∀ f : Int, 0 ≤ f → f < 6 → 0 ≤ S.2.1 28 f ∧ S.2.1 28 f ≤ S.1 2 ∧ 0 ≤ S.2.1 11 f ∧ S.2.1 11 f ≤ 50)
theorem x_po_rng {S : zS} {c : Nat} : ∀ (k : Nat) (m : Int), m ≤ x_po S c m k ∧ x_po S c m k ≤ m + 100 * k
  | 0, m => by simp [x_po]
  | k + 1, m => by
    have h := x_po_rng (S := S) (c := c) k (m + 100)
    unfold x_po
    split <;> omega
def x_co (S : zS) (c : Nat) (o : Int) : zS :=
  if S.1 0 ≤ S.2.1 17 (S.2.1 21 o) then z_sA S 24 o (x_po S c (S.2.1 24 o + 100) 60)
  else if S.2.1 13 (S.2.1 21 o) = S.2.1 22 o then z_sA S 19 o 3
  else x_pay (z_sA (x_mv (z_sA (z_sA S 19 o 2) 23 o (S.2.1 13 (S.2.1 21 o))) (S.2.1 21 o) (S.2.1 22 o)) 18 (S.2.1 21 o) o) (S.2.1 22 o) (S.2.1 13 (S.2.1 21 o)) 5
theorem x_co_mono {S : zS} {c : Nat} {o : Int} : S.1 2 ≤ (x_co S c o).1 2 ∧ S.1 3 ≤ (x_co S c o).1 3 := by
  unfold x_co
  split
  · exact ⟨Int.le_refl _, Int.le_refl _⟩
  · split
    · exact ⟨Int.le_refl _, Int.le_refl _⟩
    · constructor
      · show S.1 2 ≤ S.1 2 + 1; omega
      · show S.1 3 ≤ S.1 3 + 1; omega
theorem s_X6_carryOut {S : zS} {c : Nat} {o : Int} (P : xP S c) (ho : 0 ≤ o ∧ o < c) (hw : S.2.1 19 o = 1) (hdue : S.2.1 24 o ≤ 9999) (h2 : (x_co S c o).1 2 ≤ 600) (h3 : (x_co S c o).1 3 ≤ 572) : z_Fn mX6_carryOut [zR 0, zI o] S none (x_co S c o) := by
  obtain ⟨hc, h60, hnow, hc2, hc3, hO, hN, hJ, hF⟩ := P
  obtain ⟨o1, o2, o3, o4⟩ := hO o ho.1 ho.2
  have o5 := o4 hw
  have o6 := hN _ o1.1 o1.2
  refine z_enter (by decide +kernel) rfl (z_n1 trivial (z_n1 trivial z_n0)) (Nat.le_of_ble_eq_true rfl) ?_
  by_cases e1 : S.1 0 ≤ S.2.1 17 (S.2.1 21 o)
  · have e : x_co S c o = z_sA S 24 o (x_po S c (S.2.1 24 o + 100) 60) := by unfold x_co; rw [if_pos e1]
    rw [e]
    refine g_aload_n (i := 0) (q := 1) dX6_carryOut_0 rfl rfl rfl ?_
    refine g_getr (q := 4) dX6_carryOut_1 rfl fk_X6_30 rfl rfl ?_
    refine g_getr (q := 7) dX6_carryOut_4 rfl fk_X6_207 rfl rfl ?_
    refine g_iload_n (i := 1) (q := 8) dX6_carryOut_7 rfl rfl rfl ?_
    refine g_ildv (q := 9) (z := S.2.1 21 o) dX6_carryOut_8 rfl ⟨by decide, rfl, rfl⟩ (by omega) (by omega) rfl ?_
    refine g_istore_n (i := 2) (q := 10) dX6_carryOut_9 rfl rfl (by decide) ?_
    refine g_aload_n (i := 0) (q := 11) dX6_carryOut_10 rfl rfl rfl ?_
    refine g_getr (q := 14) dX6_carryOut_11 rfl fk_X6_30 rfl rfl ?_
    refine g_getr (q := 17) dX6_carryOut_14 rfl fk_X6_213 rfl rfl ?_
    refine g_iload_n (i := 1) (q := 18) dX6_carryOut_17 rfl rfl rfl ?_
    refine g_ildv (q := 19) (z := S.2.1 22 o) dX6_carryOut_18 rfl ⟨by decide, rfl, rfl⟩ (by omega) (by omega) rfl ?_
    refine g_istore_n (i := 3) (q := 20) dX6_carryOut_19 rfl rfl (by decide) ?_
    refine g_aload_n (i := 0) (q := 21) dX6_carryOut_20 rfl rfl rfl ?_
    refine g_getr (q := 24) dX6_carryOut_21 rfl fk_X6_23 rfl rfl ?_
    refine g_iload_n (i := 2) (q := 25) dX6_carryOut_24 rfl rfl rfl ?_
    refine g_aload_n (i := 0) (q := 26) dX6_carryOut_25 rfl rfl rfl ?_
    refine g_getv (q := 29) (z := S.1 0) dX6_carryOut_26 rfl fk_X6_55 rfl rfl rfl ?_
    refine g_fnV (as := [zI (S.2.1 21 o), zI (S.1 0)]) (q := 32) (u' := 0) dX6_carryOut_29 rfl ck_X6_256 rfl rfl rfl (Nat.le_of_ble_eq_true rfl) (by decide) rfl (by decide) (s_X1_mayBeCalledBack_t (by omega) e1) rfl ?_
    refine g_if_eq (t := 46) (q := 35) dX6_carryOut_32 (by decide) rfl (fun h32 => (False.elim (by omega))) (fun h32 => ?_)
    refine g_aload_n (i := 0) (q := 36) dX6_carryOut_35 rfl rfl rfl ?_
    refine g_getr (q := 39) dX6_carryOut_36 rfl fk_X6_30 rfl rfl ?_
    refine g_iload_n (i := 1) (q := 40) dX6_carryOut_39 rfl rfl rfl ?_
    refine g_fnV (as := [zI o]) (q := 43) (u' := 0) dX6_carryOut_40 rfl ck_X6_319 rfl rfl rfl (Nat.le_of_ble_eq_true rfl) (by decide) rfl (by decide) (s_X4_putOff hc h60 (by omega) (by omega) (by omega) (by omega)) rfl ?_
    refine g_goto (q := 0) (t := 131) dX6_carryOut_43 (by decide) ?_
    exact g_retv dX6_carryOut_131 rfl (by decide) (by first | exact ⟨rfl, rfl⟩ | (exfalso; omega))
  · by_cases e2 : S.2.1 13 (S.2.1 21 o) = S.2.1 22 o
    · have e : x_co S c o = z_sA S 19 o 3 := by unfold x_co; rw [if_neg e1, if_pos e2]
      rw [e]
      refine g_aload_n (i := 0) (q := 1) dX6_carryOut_0 rfl rfl rfl ?_
      refine g_getr (q := 4) dX6_carryOut_1 rfl fk_X6_30 rfl rfl ?_
      refine g_getr (q := 7) dX6_carryOut_4 rfl fk_X6_207 rfl rfl ?_
      refine g_iload_n (i := 1) (q := 8) dX6_carryOut_7 rfl rfl rfl ?_
      refine g_ildv (q := 9) (z := S.2.1 21 o) dX6_carryOut_8 rfl ⟨by decide, rfl, rfl⟩ (by omega) (by omega) rfl ?_
      refine g_istore_n (i := 2) (q := 10) dX6_carryOut_9 rfl rfl (by decide) ?_
      refine g_aload_n (i := 0) (q := 11) dX6_carryOut_10 rfl rfl rfl ?_
      refine g_getr (q := 14) dX6_carryOut_11 rfl fk_X6_30 rfl rfl ?_
      refine g_getr (q := 17) dX6_carryOut_14 rfl fk_X6_213 rfl rfl ?_
      refine g_iload_n (i := 1) (q := 18) dX6_carryOut_17 rfl rfl rfl ?_
      refine g_ildv (q := 19) (z := S.2.1 22 o) dX6_carryOut_18 rfl ⟨by decide, rfl, rfl⟩ (by omega) (by omega) rfl ?_
      refine g_istore_n (i := 3) (q := 20) dX6_carryOut_19 rfl rfl (by decide) ?_
      refine g_aload_n (i := 0) (q := 21) dX6_carryOut_20 rfl rfl rfl ?_
      refine g_getr (q := 24) dX6_carryOut_21 rfl fk_X6_23 rfl rfl ?_
      refine g_iload_n (i := 2) (q := 25) dX6_carryOut_24 rfl rfl rfl ?_
      refine g_aload_n (i := 0) (q := 26) dX6_carryOut_25 rfl rfl rfl ?_
      refine g_getv (q := 29) (z := S.1 0) dX6_carryOut_26 rfl fk_X6_55 rfl rfl rfl ?_
      refine g_fnV (as := [zI (S.2.1 21 o), zI (S.1 0)]) (q := 32) (u' := 0) dX6_carryOut_29 rfl ck_X6_256 rfl rfl rfl (Nat.le_of_ble_eq_true rfl) (by decide) rfl (by decide) (s_X1_mayBeCalledBack_f (by omega) e1) rfl ?_
      refine g_if_eq (t := 46) (q := 35) dX6_carryOut_32 (by decide) rfl (fun h32 => ?_) (fun h32 => (False.elim (by omega)))
      refine g_aload_n (i := 0) (q := 47) dX6_carryOut_46 rfl rfl rfl ?_
      refine g_getr (q := 50) dX6_carryOut_47 rfl fk_X6_23 rfl rfl ?_
      refine g_getr (q := 53) dX6_carryOut_50 rfl fk_X6_129 rfl rfl ?_
      refine g_iload_n (i := 2) (q := 54) dX6_carryOut_53 rfl rfl rfl ?_
      refine g_ildv (q := 55) (z := S.2.1 13 (S.2.1 21 o)) dX6_carryOut_54 rfl ⟨by decide, rfl, rfl⟩ (by omega) (by omega) rfl ?_
      refine g_iload_n (i := 3) (q := 56) dX6_carryOut_55 rfl rfl rfl ?_
      refine g_icmp_ne (t := 72) (q := 59) dX6_carryOut_56 (by decide) rfl (fun h56 => (False.elim (by omega))) (fun h56 => ?_)
      refine g_aload_n (i := 0) (q := 60) dX6_carryOut_59 rfl rfl rfl ?_
      refine g_getr (q := 63) dX6_carryOut_60 rfl fk_X6_30 rfl rfl ?_
      refine g_getr (q := 66) dX6_carryOut_63 rfl fk_X6_187 rfl rfl ?_
      refine g_iload_n (i := 1) (q := 67) dX6_carryOut_66 rfl rfl rfl ?_
      refine g_iconst (q := 68) dX6_carryOut_67 rfl ⟨by decide, by decide⟩ ?_
      refine g_iast (q := 69) dX6_carryOut_68 rfl ⟨by decide, rfl, rfl⟩ (by omega) (by omega) ?_
      refine g_goto (q := 0) (t := 131) dX6_carryOut_69 (by decide) ?_
      exact g_retv dX6_carryOut_131 rfl (by decide) (by first | exact ⟨rfl, rfl⟩ | (exfalso; omega))
    · have e : x_co S c o = x_pay (z_sA (x_mv (z_sA (z_sA S 19 o 2) 23 o (S.2.1 13 (S.2.1 21 o))) (S.2.1 21 o) (S.2.1 22 o)) 18 (S.2.1 21 o) o) (S.2.1 22 o) (S.2.1 13 (S.2.1 21 o)) 5 := by unfold x_co; rw [if_neg e1, if_neg e2]
      rw [e] at h2 h3 ⊢
      have h21 : S.1 2 + 1 ≤ 600 := h2
      have h31 : S.1 3 + 1 ≤ 572 := h3
      refine g_aload_n (i := 0) (q := 1) dX6_carryOut_0 rfl rfl rfl ?_
      refine g_getr (q := 4) dX6_carryOut_1 rfl fk_X6_30 rfl rfl ?_
      refine g_getr (q := 7) dX6_carryOut_4 rfl fk_X6_207 rfl rfl ?_
      refine g_iload_n (i := 1) (q := 8) dX6_carryOut_7 rfl rfl rfl ?_
      refine g_ildv (q := 9) (z := S.2.1 21 o) dX6_carryOut_8 rfl ⟨by decide, rfl, rfl⟩ (by omega) (by omega) rfl ?_
      refine g_istore_n (i := 2) (q := 10) dX6_carryOut_9 rfl rfl (by decide) ?_
      refine g_aload_n (i := 0) (q := 11) dX6_carryOut_10 rfl rfl rfl ?_
      refine g_getr (q := 14) dX6_carryOut_11 rfl fk_X6_30 rfl rfl ?_
      refine g_getr (q := 17) dX6_carryOut_14 rfl fk_X6_213 rfl rfl ?_
      refine g_iload_n (i := 1) (q := 18) dX6_carryOut_17 rfl rfl rfl ?_
      refine g_ildv (q := 19) (z := S.2.1 22 o) dX6_carryOut_18 rfl ⟨by decide, rfl, rfl⟩ (by omega) (by omega) rfl ?_
      refine g_istore_n (i := 3) (q := 20) dX6_carryOut_19 rfl rfl (by decide) ?_
      refine g_aload_n (i := 0) (q := 21) dX6_carryOut_20 rfl rfl rfl ?_
      refine g_getr (q := 24) dX6_carryOut_21 rfl fk_X6_23 rfl rfl ?_
      refine g_iload_n (i := 2) (q := 25) dX6_carryOut_24 rfl rfl rfl ?_
      refine g_aload_n (i := 0) (q := 26) dX6_carryOut_25 rfl rfl rfl ?_
      refine g_getv (q := 29) (z := S.1 0) dX6_carryOut_26 rfl fk_X6_55 rfl rfl rfl ?_
      refine g_fnV (as := [zI (S.2.1 21 o), zI (S.1 0)]) (q := 32) (u' := 0) dX6_carryOut_29 rfl ck_X6_256 rfl rfl rfl (Nat.le_of_ble_eq_true rfl) (by decide) rfl (by decide) (s_X1_mayBeCalledBack_f (by omega) e1) rfl ?_
      refine g_if_eq (t := 46) (q := 35) dX6_carryOut_32 (by decide) rfl (fun h32 => ?_) (fun h32 => (False.elim (by omega)))
      refine g_aload_n (i := 0) (q := 47) dX6_carryOut_46 rfl rfl rfl ?_
      refine g_getr (q := 50) dX6_carryOut_47 rfl fk_X6_23 rfl rfl ?_
      refine g_getr (q := 53) dX6_carryOut_50 rfl fk_X6_129 rfl rfl ?_
      refine g_iload_n (i := 2) (q := 54) dX6_carryOut_53 rfl rfl rfl ?_
      refine g_ildv (q := 55) (z := S.2.1 13 (S.2.1 21 o)) dX6_carryOut_54 rfl ⟨by decide, rfl, rfl⟩ (by omega) (by omega) rfl ?_
      refine g_iload_n (i := 3) (q := 56) dX6_carryOut_55 rfl rfl rfl ?_
      refine g_icmp_ne (t := 72) (q := 59) dX6_carryOut_56 (by decide) rfl (fun h56 => ?_) (fun h56 => (False.elim (by omega)))
      refine g_aload_n (i := 0) (q := 73) dX6_carryOut_72 rfl rfl rfl ?_
      refine g_getr (q := 76) dX6_carryOut_73 rfl fk_X6_23 rfl rfl ?_
      refine g_getr (q := 79) dX6_carryOut_76 rfl fk_X6_129 rfl rfl ?_
      refine g_iload_n (i := 2) (q := 80) dX6_carryOut_79 rfl rfl rfl ?_
      refine g_ildv (q := 81) (z := S.2.1 13 (S.2.1 21 o)) dX6_carryOut_80 rfl ⟨by decide, rfl, rfl⟩ (by omega) (by omega) rfl ?_
      refine g_istore (q := 83) dX6_carryOut_81 rfl (by decide) ?_
      refine g_aload_n (i := 0) (q := 84) dX6_carryOut_83 rfl rfl rfl ?_
      refine g_getr (q := 87) dX6_carryOut_84 rfl fk_X6_30 rfl rfl ?_
      refine g_getr (q := 90) dX6_carryOut_87 rfl fk_X6_187 rfl rfl ?_
      refine g_iload_n (i := 1) (q := 91) dX6_carryOut_90 rfl rfl rfl ?_
      refine g_iconst (q := 92) dX6_carryOut_91 rfl ⟨by decide, by decide⟩ ?_
      refine g_iast (q := 93) dX6_carryOut_92 rfl ⟨by decide, rfl, rfl⟩ (by omega) (by omega) ?_
      refine g_aload_n (i := 0) (q := 94) dX6_carryOut_93 rfl rfl rfl ?_
      refine g_getr (q := 97) dX6_carryOut_94 rfl fk_X6_30 rfl rfl ?_
      refine g_getr (q := 100) dX6_carryOut_97 rfl fk_X6_204 rfl rfl ?_
      refine g_iload_n (i := 1) (q := 101) dX6_carryOut_100 rfl rfl rfl ?_
      refine g_iload (q := 103) dX6_carryOut_101 rfl rfl ?_
      refine g_iast (q := 104) dX6_carryOut_103 rfl ⟨by decide, rfl, rfl⟩ (by omega) (by omega) ?_
      refine g_aload_n (i := 0) (q := 105) dX6_carryOut_104 rfl rfl rfl ?_
      refine g_iload_n (i := 2) (q := 106) dX6_carryOut_105 rfl rfl rfl ?_
      refine g_iload_n (i := 3) (q := 107) dX6_carryOut_106 rfl rfl rfl ?_
      refine g_fnV (as := [zI (S.2.1 21 o), zI (S.2.1 22 o)]) (q := 110) (u' := 0) dX6_carryOut_107 rfl ck_X6_210 rfl rfl rfl (Nat.le_of_ble_eq_true rfl) (by decide) rfl (by decide) (s_X6_moveTo (S := z_sA (z_sA S 19 o 2) 23 o (S.2.1 13 (S.2.1 21 o))) o1 (show 0 ≤ S.1 2 ∧ S.1 2 < 600 by omega) (show 0 ≤ S.1 3 ∧ S.1 3 < 572 by omega)) rfl ?_
      refine g_aload_n (i := 0) (q := 111) dX6_carryOut_110 rfl rfl rfl ?_
      refine g_getr (q := 114) dX6_carryOut_111 rfl fk_X6_23 rfl rfl ?_
      refine g_getr (q := 117) dX6_carryOut_114 rfl fk_X6_309 rfl rfl ?_
      refine g_iload_n (i := 2) (q := 118) dX6_carryOut_117 rfl rfl rfl ?_
      refine g_iload_n (i := 1) (q := 119) dX6_carryOut_118 rfl rfl rfl ?_
      refine g_iast (q := 120) dX6_carryOut_119 rfl ⟨by decide, rfl, rfl⟩ (by omega) (by omega) ?_
      refine g_aload_n (i := 0) (q := 121) dX6_carryOut_120 rfl rfl rfl ?_
      refine g_getr (q := 124) dX6_carryOut_121 rfl fk_X6_16 rfl rfl ?_
      refine g_iload_n (i := 3) (q := 125) dX6_carryOut_124 rfl rfl rfl ?_
      refine g_iload (q := 127) dX6_carryOut_125 rfl rfl ?_
      refine g_iconst (q := 128) dX6_carryOut_127 rfl ⟨by decide, by decide⟩ ?_
      refine g_fnV (as := [zI (S.2.1 22 o), zI (S.2.1 13 (S.2.1 21 o)), zI 5]) (q := 131) (u' := 0) dX6_carryOut_128 rfl ck_X6_216 rfl rfl rfl (Nat.le_of_ble_eq_true rfl) (by decide) rfl (by decide) (s_X2_pay (by omega) (by omega)) rfl ?_
      exact g_retv dX6_carryOut_131 rfl (by decide) (by first | exact ⟨rfl, rfl⟩ | (exfalso; omega))
theorem xP_co {S : zS} {c : Nat} {o : Int} (P : xP S c) (ho : 0 ≤ o ∧ o < c) (hw : S.2.1 19 o = 1) (hdue : S.2.1 24 o ≤ 9999) : xP (x_co S c o) c := by
  obtain ⟨hc, h60, hnow, hc2, hc3, hO, hN, hJ, hF⟩ := id P
  obtain ⟨o1, o2, o3, o4⟩ := hO o ho.1 ho.2
  have o5 := o4 hw
  have o6 := hN _ o1.1 o1.2
  unfold x_co
  split
  · have hp := x_po_rng (S := S) (c := c) 60 (S.2.1 24 o + 100)
    refine ⟨hc, h60, hnow, hc2, hc3, fun o' a b => ?_, hN, hJ, hF⟩
    obtain ⟨q1, q2, q3, q4⟩ := hO o' a b
    refine ⟨q1, q2, ?_, q4⟩
    rw [za_sA]
    split <;> omega
  · split
    · refine ⟨hc, h60, hnow, hc2, hc3, fun o' a b => ?_, hN, hJ, hF⟩
      obtain ⟨q1, q2, q3, q4⟩ := hO o' a b
      refine ⟨q1, q2, q3, fun h => ?_⟩
      rw [za_sA] at h
      split at h
      · omega
      · exact q4 h
    · refine ⟨hc, h60, hnow, show 0 ≤ S.1 2 + 1 by omega, show 0 ≤ S.1 3 + 1 by omega, fun o' a b => ?_, fun n a b => ?_, fun j a b => ?_, fun f a b => ?_⟩
      · obtain ⟨q1, q2, q3, q4⟩ := hO o' a b
        refine ⟨q1, q2, q3, fun h => ?_⟩
        have h' : (if o' = o then (2 : Int) else S.2.1 19 o') = 1 := by
          have : (x_pay (z_sA (x_mv (z_sA (z_sA S 19 o 2) 23 o (S.2.1 13 (S.2.1 21 o))) (S.2.1 21 o) (S.2.1 22 o)) 18 (S.2.1 21 o) o) (S.2.1 22 o) (S.2.1 13 (S.2.1 21 o)) 5).2.1 19 o' = if o' = o then (2 : Int) else S.2.1 19 o' := by
            simp [x_pay, x_mv, x_chg, x_note, z_sA, z_sS]
          rw [this] at h
          exact h
        split at h'
        · omega
        · have q5 := q4 h'
          have e9 : ∀ n, (x_pay (z_sA (x_mv (z_sA (z_sA S 19 o 2) 23 o (S.2.1 13 (S.2.1 21 o))) (S.2.1 21 o) (S.2.1 22 o)) 18 (S.2.1 21 o) o) (S.2.1 22 o) (S.2.1 13 (S.2.1 21 o)) 5).2.1 13 n = if n = S.2.1 21 o then S.2.1 22 o else S.2.1 13 n := by
            intro n
            simp [x_pay, x_mv, x_chg, x_note, z_sA, z_sS]
          have e10 : (x_pay (z_sA (x_mv (z_sA (z_sA S 19 o 2) 23 o (S.2.1 13 (S.2.1 21 o))) (S.2.1 21 o) (S.2.1 22 o)) 18 (S.2.1 21 o) o) (S.2.1 22 o) (S.2.1 13 (S.2.1 21 o)) 5).2.1 21 o' = S.2.1 21 o' := by
            simp [x_pay, x_mv, x_chg, x_note, z_sA, z_sS]
          rw [e10, e9]
          split <;> omega
      · have q := hN n a b
        have e9 : (x_pay (z_sA (x_mv (z_sA (z_sA S 19 o 2) 23 o (S.2.1 13 (S.2.1 21 o))) (S.2.1 21 o) (S.2.1 22 o)) 18 (S.2.1 21 o) o) (S.2.1 22 o) (S.2.1 13 (S.2.1 21 o)) 5).2.1 13 n = if n = S.2.1 21 o then S.2.1 22 o else S.2.1 13 n := by
          simp [x_pay, x_mv, x_chg, x_note, z_sA, z_sS]
        rw [e9]
        split <;> omega
      · have b2 : j < S.1 2 + 1 := b
        have e9 : (x_pay (z_sA (x_mv (z_sA (z_sA S 19 o 2) 23 o (S.2.1 13 (S.2.1 21 o))) (S.2.1 21 o) (S.2.1 22 o)) 18 (S.2.1 21 o) o) (S.2.1 22 o) (S.2.1 13 (S.2.1 21 o)) 5).2.1 26 j = if j = S.1 2 then S.2.1 21 o else S.2.1 26 j := by
          simp [x_pay, x_mv, x_chg, x_note, z_sA, z_sS]
        rw [e9]
        split
        · exact o1
        · exact hJ j a (by omega)
      · have q := hF f a b
        refine ⟨q.1, ?_, q.2.2⟩
        show S.2.1 28 f ≤ S.1 2 + 1
        omega
def x_cd (S : zS) (c : Nat) : Nat → Nat → zS
  | _, 0 => S
  | i, k + 1 => x_cd (if S.2.1 19 i = 1 ∧ S.2.1 24 i = S.1 0 then x_co S c i else S) c (i + 1) k
def x_cdn (S : zS) (c : Nat) : Nat → Nat → Int
  | _, 0 => 0
  | i, k + 1 => (if (S.2.1 19 i = 1 ∧ S.2.1 24 i = S.1 0) ∧ (x_co S c i).2.1 19 i = 2 then 1 else 0) + x_cdn (if S.2.1 19 i = 1 ∧ S.2.1 24 i = S.1 0 then x_co S c i else S) c (i + 1) k
theorem x_cd_mono {c : Nat} : ∀ (k i : Nat) (S : zS), S.1 2 ≤ (x_cd S c i k).1 2 ∧ S.1 3 ≤ (x_cd S c i k).1 3
  | 0, _, _ => ⟨Int.le_refl _, Int.le_refl _⟩
  | k + 1, i, S => by
    have h := x_cd_mono (c := c) k (i + 1) (if S.2.1 19 i = 1 ∧ S.2.1 24 i = S.1 0 then x_co S c i else S)
    rw [x_cd]
    have h2 : S.1 2 ≤ (if S.2.1 19 i = 1 ∧ S.2.1 24 i = S.1 0 then x_co S c i else S).1 2 ∧ S.1 3 ≤ (if S.2.1 19 i = 1 ∧ S.2.1 24 i = S.1 0 then x_co S c i else S).1 3 := by
      split
      · exact x_co_mono
      · exact ⟨Int.le_refl _, Int.le_refl _⟩
    exact ⟨Int.le_trans h2.1 h.1, Int.le_trans h2.2 h.2⟩
theorem l_X6_carryOutDueOrders {Q : zQ} {c : Nat} : ∀ (k i : Nat) (S : zS) (d : Int), i + k = c → xP S c → (x_cd S c i k).1 2 ≤ 600 → (x_cd S c i k).1 3 ≤ 572 → 0 ≤ d ∧ d ≤ i → Q (.ok (some (zI (d + x_cdn S c i k)))) (x_cd S c i k) → z_G mX6_carryOutDueOrders (z_F mX6_carryOutDueOrders Q) 0 4 [some (zR 0), some (zI d), some (zI (i : Int))] [] S := by
  intro k
  induction k with
  | zero =>
    intro i S d hi P h2 h3 hd hQ
    rw [x_cdn, Int.add_zero] at hQ
    have hc : S.1 1 = c := P.1
    refine g_iload_n (i := 2) (q := 5) dX6_carryOutDueOrders_4 rfl rfl rfl ?_
    refine g_aload_n (i := 0) (q := 6) dX6_carryOutDueOrders_5 rfl rfl rfl ?_
    refine g_getr (q := 9) dX6_carryOutDueOrders_6 rfl fk_X6_30 rfl rfl ?_
    refine g_getv (q := 12) (z := S.1 1) dX6_carryOutDueOrders_9 rfl fk_X6_172 rfl rfl rfl ?_
    refine g_icmp_ge (t := 71) (q := 15) dX6_carryOutDueOrders_12 (by decide) rfl (fun h12 => ?_) (fun h12 => (False.elim (by omega)))
    refine g_iload_n (i := 1) (q := 72) dX6_carryOutDueOrders_71 rfl rfl rfl ?_
    exact g_ret dX6_carryOutDueOrders_72 rfl (by decide) hQ
  | succ k ih =>
    intro i S d hi P h2 h3 hd hQ
    have hc : S.1 1 = c := P.1
    have h60 := P.2.1
    have hnow := P.2.2.1
    rw [x_cdn] at hQ
    rw [x_cd] at hQ h2 h3
    by_cases e1 : S.2.1 19 i = 1 ∧ S.2.1 24 i = S.1 0
    · rw [if_pos e1] at hQ h2 h3
      have hm := x_cd_mono (c := c) k (i + 1) (x_co S c i)
      by_cases e2 : (x_co S c i).2.1 19 i = 2
      · rw [if_pos ⟨e1, e2⟩] at hQ
        refine g_iload_n (i := 2) (q := 5) dX6_carryOutDueOrders_4 rfl rfl rfl ?_
        refine g_aload_n (i := 0) (q := 6) dX6_carryOutDueOrders_5 rfl rfl rfl ?_
        refine g_getr (q := 9) dX6_carryOutDueOrders_6 rfl fk_X6_30 rfl rfl ?_
        refine g_getv (q := 12) (z := S.1 1) dX6_carryOutDueOrders_9 rfl fk_X6_172 rfl rfl rfl ?_
        refine g_icmp_ge (t := 71) (q := 15) dX6_carryOutDueOrders_12 (by decide) rfl (fun h12 => (False.elim (by omega))) (fun h12 => ?_)
        refine g_aload_n (i := 0) (q := 16) dX6_carryOutDueOrders_15 rfl rfl rfl ?_
        refine g_getr (q := 19) dX6_carryOutDueOrders_16 rfl fk_X6_30 rfl rfl ?_
        refine g_getr (q := 22) dX6_carryOutDueOrders_19 rfl fk_X6_187 rfl rfl ?_
        refine g_iload_n (i := 2) (q := 23) dX6_carryOutDueOrders_22 rfl rfl rfl ?_
        refine g_ildv (q := 24) (z := S.2.1 19 (i : Int)) dX6_carryOutDueOrders_23 rfl ⟨by decide, rfl, rfl⟩ (by omega) (by omega) rfl ?_
        refine g_iconst (q := 25) dX6_carryOutDueOrders_24 rfl ⟨by decide, by decide⟩ ?_
        refine g_icmp_ne (t := 65) (q := 28) dX6_carryOutDueOrders_25 (by decide) rfl (fun h25 => (False.elim (by omega))) (fun h25 => ?_)
        refine g_aload_n (i := 0) (q := 29) dX6_carryOutDueOrders_28 rfl rfl rfl ?_
        refine g_getr (q := 32) dX6_carryOutDueOrders_29 rfl fk_X6_30 rfl rfl ?_
        refine g_getr (q := 35) dX6_carryOutDueOrders_32 rfl fk_X6_190 rfl rfl ?_
        refine g_iload_n (i := 2) (q := 36) dX6_carryOutDueOrders_35 rfl rfl rfl ?_
        refine g_ildv (q := 37) (z := S.2.1 24 (i : Int)) dX6_carryOutDueOrders_36 rfl ⟨by decide, rfl, rfl⟩ (by omega) (by omega) rfl ?_
        refine g_aload_n (i := 0) (q := 38) dX6_carryOutDueOrders_37 rfl rfl rfl ?_
        refine g_getv (q := 41) (z := S.1 0) dX6_carryOutDueOrders_38 rfl fk_X6_55 rfl rfl rfl ?_
        refine g_icmp_ne (t := 65) (q := 44) dX6_carryOutDueOrders_41 (by decide) rfl (fun h41 => (False.elim (by omega))) (fun h41 => ?_)
        refine g_aload_n (i := 0) (q := 45) dX6_carryOutDueOrders_44 rfl rfl rfl ?_
        refine g_iload_n (i := 2) (q := 46) dX6_carryOutDueOrders_45 rfl rfl rfl ?_
        refine g_fnV (as := [zI (i : Int)]) (q := 49) (u' := 0) dX6_carryOutDueOrders_46 rfl ck_X6_316 rfl rfl rfl (Nat.le_of_ble_eq_true rfl) (by decide) rfl (by decide) (s_X6_carryOut P (by omega) e1.1 (by omega) (by omega) (by omega)) rfl ?_
        refine g_aload_n (i := 0) (q := 50) dX6_carryOutDueOrders_49 rfl rfl rfl ?_
        refine g_getr (q := 53) dX6_carryOutDueOrders_50 rfl fk_X6_30 rfl rfl ?_
        refine g_getr (q := 56) dX6_carryOutDueOrders_53 rfl fk_X6_187 rfl rfl ?_
        refine g_iload_n (i := 2) (q := 57) dX6_carryOutDueOrders_56 rfl rfl rfl ?_
        refine g_ildv (q := 58) (z := (x_co S c i).2.1 19 (i : Int)) dX6_carryOutDueOrders_57 rfl ⟨by decide, rfl, rfl⟩ (by omega) (by omega) rfl ?_
        refine g_iconst (q := 59) dX6_carryOutDueOrders_58 rfl ⟨by decide, by decide⟩ ?_
        refine g_icmp_ne (t := 65) (q := 62) dX6_carryOutDueOrders_59 (by decide) rfl (fun h59 => (False.elim (by omega))) (fun h59 => ?_)
        refine g_iinc (q := 65) (i := 1) (n := 1) dX6_carryOutDueOrders_62 rfl rfl (by constructor <;> omega) ?_
        refine g_iinc (q := 68) (i := 2) (n := 1) dX6_carryOutDueOrders_65 rfl rfl (by constructor <;> omega) ?_
        refine g_goto (q := 0) (t := 4) dX6_carryOutDueOrders_68 (by decide) ?_
        exact ih (i + 1) _ _ (by omega) (xP_co P (by omega) e1.1 (by omega)) h2 h3 (by omega) (by rw [Int.add_assoc]; exact hQ)
      · rw [if_neg (fun q => e2 q.2), Int.zero_add] at hQ
        refine g_iload_n (i := 2) (q := 5) dX6_carryOutDueOrders_4 rfl rfl rfl ?_
        refine g_aload_n (i := 0) (q := 6) dX6_carryOutDueOrders_5 rfl rfl rfl ?_
        refine g_getr (q := 9) dX6_carryOutDueOrders_6 rfl fk_X6_30 rfl rfl ?_
        refine g_getv (q := 12) (z := S.1 1) dX6_carryOutDueOrders_9 rfl fk_X6_172 rfl rfl rfl ?_
        refine g_icmp_ge (t := 71) (q := 15) dX6_carryOutDueOrders_12 (by decide) rfl (fun h12 => (False.elim (by omega))) (fun h12 => ?_)
        refine g_aload_n (i := 0) (q := 16) dX6_carryOutDueOrders_15 rfl rfl rfl ?_
        refine g_getr (q := 19) dX6_carryOutDueOrders_16 rfl fk_X6_30 rfl rfl ?_
        refine g_getr (q := 22) dX6_carryOutDueOrders_19 rfl fk_X6_187 rfl rfl ?_
        refine g_iload_n (i := 2) (q := 23) dX6_carryOutDueOrders_22 rfl rfl rfl ?_
        refine g_ildv (q := 24) (z := S.2.1 19 (i : Int)) dX6_carryOutDueOrders_23 rfl ⟨by decide, rfl, rfl⟩ (by omega) (by omega) rfl ?_
        refine g_iconst (q := 25) dX6_carryOutDueOrders_24 rfl ⟨by decide, by decide⟩ ?_
        refine g_icmp_ne (t := 65) (q := 28) dX6_carryOutDueOrders_25 (by decide) rfl (fun h25 => (False.elim (by omega))) (fun h25 => ?_)
        refine g_aload_n (i := 0) (q := 29) dX6_carryOutDueOrders_28 rfl rfl rfl ?_
        refine g_getr (q := 32) dX6_carryOutDueOrders_29 rfl fk_X6_30 rfl rfl ?_
        refine g_getr (q := 35) dX6_carryOutDueOrders_32 rfl fk_X6_190 rfl rfl ?_
        refine g_iload_n (i := 2) (q := 36) dX6_carryOutDueOrders_35 rfl rfl rfl ?_
        refine g_ildv (q := 37) (z := S.2.1 24 (i : Int)) dX6_carryOutDueOrders_36 rfl ⟨by decide, rfl, rfl⟩ (by omega) (by omega) rfl ?_
        refine g_aload_n (i := 0) (q := 38) dX6_carryOutDueOrders_37 rfl rfl rfl ?_
        refine g_getv (q := 41) (z := S.1 0) dX6_carryOutDueOrders_38 rfl fk_X6_55 rfl rfl rfl ?_
        refine g_icmp_ne (t := 65) (q := 44) dX6_carryOutDueOrders_41 (by decide) rfl (fun h41 => (False.elim (by omega))) (fun h41 => ?_)
        refine g_aload_n (i := 0) (q := 45) dX6_carryOutDueOrders_44 rfl rfl rfl ?_
        refine g_iload_n (i := 2) (q := 46) dX6_carryOutDueOrders_45 rfl rfl rfl ?_
        refine g_fnV (as := [zI (i : Int)]) (q := 49) (u' := 0) dX6_carryOutDueOrders_46 rfl ck_X6_316 rfl rfl rfl (Nat.le_of_ble_eq_true rfl) (by decide) rfl (by decide) (s_X6_carryOut P (by omega) e1.1 (by omega) (by omega) (by omega)) rfl ?_
        refine g_aload_n (i := 0) (q := 50) dX6_carryOutDueOrders_49 rfl rfl rfl ?_
        refine g_getr (q := 53) dX6_carryOutDueOrders_50 rfl fk_X6_30 rfl rfl ?_
        refine g_getr (q := 56) dX6_carryOutDueOrders_53 rfl fk_X6_187 rfl rfl ?_
        refine g_iload_n (i := 2) (q := 57) dX6_carryOutDueOrders_56 rfl rfl rfl ?_
        refine g_ildv (q := 58) (z := (x_co S c i).2.1 19 (i : Int)) dX6_carryOutDueOrders_57 rfl ⟨by decide, rfl, rfl⟩ (by omega) (by omega) rfl ?_
        refine g_iconst (q := 59) dX6_carryOutDueOrders_58 rfl ⟨by decide, by decide⟩ ?_
        refine g_icmp_ne (t := 65) (q := 62) dX6_carryOutDueOrders_59 (by decide) rfl (fun h59 => ?_) (fun h59 => (False.elim (by omega)))
        refine g_iinc (q := 68) (i := 2) (n := 1) dX6_carryOutDueOrders_65 rfl rfl (by constructor <;> omega) ?_
        refine g_goto (q := 0) (t := 4) dX6_carryOutDueOrders_68 (by decide) ?_
        exact ih (i + 1) _ _ (by omega) (xP_co P (by omega) e1.1 (by omega)) h2 h3 (by omega) hQ
    · rw [if_neg e1] at hQ h2 h3
      rw [if_neg (fun q => e1 q.1), Int.zero_add] at hQ
      refine g_iload_n (i := 2) (q := 5) dX6_carryOutDueOrders_4 rfl rfl rfl ?_
      refine g_aload_n (i := 0) (q := 6) dX6_carryOutDueOrders_5 rfl rfl rfl ?_
      refine g_getr (q := 9) dX6_carryOutDueOrders_6 rfl fk_X6_30 rfl rfl ?_
      refine g_getv (q := 12) (z := S.1 1) dX6_carryOutDueOrders_9 rfl fk_X6_172 rfl rfl rfl ?_
      refine g_icmp_ge (t := 71) (q := 15) dX6_carryOutDueOrders_12 (by decide) rfl (fun h12 => (False.elim (by omega))) (fun h12 => ?_)
      refine g_aload_n (i := 0) (q := 16) dX6_carryOutDueOrders_15 rfl rfl rfl ?_
      refine g_getr (q := 19) dX6_carryOutDueOrders_16 rfl fk_X6_30 rfl rfl ?_
      refine g_getr (q := 22) dX6_carryOutDueOrders_19 rfl fk_X6_187 rfl rfl ?_
      refine g_iload_n (i := 2) (q := 23) dX6_carryOutDueOrders_22 rfl rfl rfl ?_
      refine g_ildv (q := 24) (z := S.2.1 19 (i : Int)) dX6_carryOutDueOrders_23 rfl ⟨by decide, rfl, rfl⟩ (by omega) (by omega) rfl ?_
      refine g_iconst (q := 25) dX6_carryOutDueOrders_24 rfl ⟨by decide, by decide⟩ ?_
      refine g_icmp_ne (t := 65) (q := 28) dX6_carryOutDueOrders_25 (by decide) rfl (fun h25 => ?_) (fun h25 => ?_)
      · refine g_iinc (q := 68) (i := 2) (n := 1) dX6_carryOutDueOrders_65 rfl rfl (by constructor <;> omega) ?_
        refine g_goto (q := 0) (t := 4) dX6_carryOutDueOrders_68 (by decide) ?_
        exact ih (i + 1) _ _ (by omega) P h2 h3 (by omega) hQ
      · refine g_aload_n (i := 0) (q := 29) dX6_carryOutDueOrders_28 rfl rfl rfl ?_
        refine g_getr (q := 32) dX6_carryOutDueOrders_29 rfl fk_X6_30 rfl rfl ?_
        refine g_getr (q := 35) dX6_carryOutDueOrders_32 rfl fk_X6_190 rfl rfl ?_
        refine g_iload_n (i := 2) (q := 36) dX6_carryOutDueOrders_35 rfl rfl rfl ?_
        refine g_ildv (q := 37) (z := S.2.1 24 (i : Int)) dX6_carryOutDueOrders_36 rfl ⟨by decide, rfl, rfl⟩ (by omega) (by omega) rfl ?_
        refine g_aload_n (i := 0) (q := 38) dX6_carryOutDueOrders_37 rfl rfl rfl ?_
        refine g_getv (q := 41) (z := S.1 0) dX6_carryOutDueOrders_38 rfl fk_X6_55 rfl rfl rfl ?_
        refine g_icmp_ne (t := 65) (q := 44) dX6_carryOutDueOrders_41 (by decide) rfl (fun h41 => ?_) (fun h41 => ?_)
        · refine g_iinc (q := 68) (i := 2) (n := 1) dX6_carryOutDueOrders_65 rfl rfl (by constructor <;> omega) ?_
          refine g_goto (q := 0) (t := 4) dX6_carryOutDueOrders_68 (by decide) ?_
          exact ih (i + 1) _ _ (by omega) P h2 h3 (by omega) hQ
        · exact absurd ⟨by omega, by omega⟩ e1
theorem s_X6_carryOutDueOrders {S : zS} {c : Nat} (P : xP S c) (h2 : (x_cd S c 0 c).1 2 ≤ 600) (h3 : (x_cd S c 0 c).1 3 ≤ 572) : z_Fn mX6_carryOutDueOrders [zR 0] S (some (zI (x_cdn S c 0 c))) (x_cd S c 0 c) := by
  refine z_enter (by decide +kernel) rfl (z_n1 trivial z_n0) (Nat.le_of_ble_eq_true rfl) ?_
  refine g_iconst (q := 1) dX6_carryOutDueOrders_0 rfl ⟨by decide, by decide⟩ ?_
  refine g_istore_n (i := 1) (q := 2) dX6_carryOutDueOrders_1 rfl rfl (by decide) ?_
  refine g_iconst (q := 3) dX6_carryOutDueOrders_2 rfl ⟨by decide, by decide⟩ ?_
  refine g_istore_n (i := 2) (q := 4) dX6_carryOutDueOrders_3 rfl rfl (by decide) ?_
  exact l_X6_carryOutDueOrders c 0 S 0 (by omega) P h2 h3 (by omega) ⟨by rw [Int.zero_add], rfl⟩
theorem x_cdn_rng {c : Nat} : ∀ (k i : Nat) (S : zS), 0 ≤ x_cdn S c i k ∧ x_cdn S c i k ≤ k
  | 0, _, _ => by simp [x_cdn]
  | k + 1, i, S => by
    have h := x_cdn_rng (c := c) k (i + 1) (if S.2.1 19 i = 1 ∧ S.2.1 24 i = S.1 0 then x_co S c i else S)
    rw [x_cdn]
    split <;> omega
theorem xP_cd {c : Nat} : ∀ (k i : Nat) (S : zS), i + k = c → xP S c → xP (x_cd S c i k) c
  | 0, _, _, _, P => P
  | k + 1, i, S, hi, P => by
    rw [x_cd]
    refine xP_cd k (i + 1) _ (by omega) ?_
    split
    · next e1 => exact xP_co P (by omega) e1.1 (by have := P.2.2.1; omega)
    · exact P
/-- what a firm learns as a minute goes by -/
def x_li1 (S : zS) (c2 : Nat) (f : Int) : zS := if S.2.1 10 f = 0 then x_lu S f (S.1 0 - S.2.1 11 f) (S.2.1 28 f).toNat (c2 - (S.2.1 28 f).toNat) else S
def x_li (S : zS) (c2 : Nat) : Nat → Nat → zS
  | _, 0 => S
  | i, k + 1 => x_li (x_li1 S c2 i) c2 (i + 1) k
/-- a table's learning touches that firm's table and how far it is -/
theorem x_lu_fr {f m : Int} : ∀ (k a : Nat) (S : zS), (∀ i, (x_lu S f m a k).1 i = S.1 i) ∧ (∀ q j, q ≠ 28 → q ≠ 30 + f.toNat → (x_lu S f m a k).2.1 q j = S.2.1 q j) ∧ (∀ j, j ≠ f → (x_lu S f m a k).2.1 28 j = S.2.1 28 j) ∧ ((a : Int) ≤ (x_lu S f m a k).2.1 28 f ∧ (x_lu S f m a k).2.1 28 f ≤ a + k) ∧ (x_lu S f m a k).2.2 = S.2.2
  | 0, a, S => by
    rw [x_lu]
    refine ⟨fun i => rfl, fun q j h1 h2 => za_ne h1, fun j h => za_ni h, ?_, rfl⟩
    rw [za_eq]
    omega
  | k + 1, a, S => by
    rw [x_lu]
    split
    · obtain ⟨h1, h2, h3, h4, h5⟩ := x_lu_fr (f := f) (m := m) k (a + 1) (z_sA S (30 + f.toNat) (S.2.1 26 a) (S.2.1 27 a))
      refine ⟨fun i => h1 i, fun q j a1 a2 => by rw [h2 q j a1 a2, za_ne a2], fun j h => by rw [h3 j h, za_ne (by omega)], ⟨by omega, by omega⟩, h5⟩
    · refine ⟨fun i => rfl, fun q j h1 h2 => za_ne h1, fun j h => za_ni h, ?_, rfl⟩
      rw [za_eq]
      omega
theorem xP_li1 {S : zS} {c c2 : Nat} {f : Int} (P : xP S c) (hc2 : S.1 2 = c2) (hf : 0 ≤ f ∧ f < 6) : xP (x_li1 S c2 f) c ∧ (x_li1 S c2 f).1 = S.1 := by
  unfold x_li1
  split
  · obtain ⟨hc, h60, hnow, hc2', hc3, hO, hN, hJ, hF⟩ := P
    have hff := hF f hf.1 hf.2
    obtain ⟨a1, a2, a3, a4, -⟩ := x_lu_fr (f := f) (m := S.1 0 - S.2.1 11 f) (c2 - (S.2.1 28 f).toNat) (S.2.1 28 f).toNat S
    generalize x_lu S f (S.1 0 - S.2.1 11 f) (S.2.1 28 f).toNat (c2 - (S.2.1 28 f).toNat) = T at a1 a2 a3 a4
    refine ⟨⟨by rw [a1]; exact hc, h60, by rw [a1]; exact hnow, by rw [a1]; exact hc2', by rw [a1]; exact hc3, fun o x y => ?_, fun n x y => ?_, fun j x y => ?_, fun g x y => ?_⟩, funext a1⟩
    · rw [a2 21 o (by omega) (by omega), a2 22 o (by omega) (by omega), a2 24 o (by omega) (by omega), a2 19 o (by omega) (by omega), a2 13 _ (by omega) (by omega)]
      exact hO o x y
    · rw [a2 13 n (by omega) (by omega)]
      exact hN n x y
    · rw [a1] at y
      rw [a2 26 j (by omega) (by omega)]
      exact hJ j x y
    · rw [a1, a2 11 g (by omega) (by omega)]
      have hg := hF g x y
      by_cases hgf : g = f
      · subst hgf
        exact ⟨by omega, by omega, hg.2.2⟩
      · rw [a3 g hgf]
        exact hg
  · exact ⟨P, rfl⟩
theorem l_X6_learnInTime {Q : zQ} {c c2 : Nat} (h6 : c2 ≤ 600) : ∀ (k i : Nat) (S : zS), i + k = 6 → xP S c → S.1 2 = c2 → Q (.ok none) (x_li S c2 i k) → z_G mX6_learnInTime (z_F mX6_learnInTime Q) 0 2 [some (zR 0), some (zI (i : Int))] [] S := by
  intro k
  induction k with
  | zero =>
    intro i S hi P hc2 hQ
    refine g_iload_n (i := 1) (q := 3) dX6_learnInTime_2 rfl rfl rfl ?_
    refine g_bipush (q := 5) dX6_learnInTime_3 rfl ⟨by decide, by decide⟩ (by decide) ?_
    refine g_icmp_ge (t := 48) (q := 8) dX6_learnInTime_5 (by decide) rfl (fun h5 => ?_) (fun h5 => (False.elim (by omega)))
    exact g_retv dX6_learnInTime_48 rfl (by decide) hQ
  | succ k ih =>
    intro i S hi P hc2 hQ
    rw [x_li] at hQ
    have hP1 := xP_li1 P hc2 (f := (i : Int)) (by omega)
    have hff := P.2.2.2.2.2.2.2.2 (i : Int) (by omega) (by omega)
    have hnow := P.2.2.1
    have hnx := ih (i + 1) (x_li1 S c2 i) (by omega) hP1.1 (by rw [hP1.2]; exact hc2) hQ
    have hJ := P.2.2.2.2.2.2.2.1
    by_cases e1 : S.2.1 10 i = 0
    · have e : x_li1 S c2 i = x_lu S i (S.1 0 - S.2.1 11 i) (S.2.1 28 i).toNat (c2 - (S.2.1 28 i).toNat) := by unfold x_li1; rw [if_pos e1]
      rw [e] at hnx
      refine g_iload_n (i := 1) (q := 3) dX6_learnInTime_2 rfl rfl rfl ?_
      refine g_bipush (q := 5) dX6_learnInTime_3 rfl ⟨by decide, by decide⟩ (by decide) ?_
      refine g_icmp_ge (t := 48) (q := 8) dX6_learnInTime_5 (by decide) rfl (fun h5 => (False.elim (by omega))) (fun h5 => ?_)
      refine g_aload_n (i := 0) (q := 9) dX6_learnInTime_8 rfl rfl rfl ?_
      refine g_getr (q := 12) dX6_learnInTime_9 rfl fk_X6_16 rfl rfl ?_
      refine g_getr (q := 15) dX6_learnInTime_12 rfl fk_X6_234 rfl rfl ?_
      refine g_iload_n (i := 1) (q := 16) dX6_learnInTime_15 rfl rfl rfl ?_
      refine g_zldv (q := 17) (z := S.2.1 10 (i : Int)) dX6_learnInTime_16 rfl ⟨by decide, rfl, rfl⟩ (by omega) (by omega) rfl ?_
      refine g_if_ne (t := 42) (q := 20) dX6_learnInTime_17 (by decide) rfl (fun h17 => (False.elim (by omega))) (fun h17 => ?_)
      refine g_aload_n (i := 0) (q := 21) dX6_learnInTime_20 rfl rfl rfl ?_
      refine g_getr (q := 24) dX6_learnInTime_21 rfl fk_X6_37 rfl rfl ?_
      refine g_iload_n (i := 1) (q := 25) dX6_learnInTime_24 rfl rfl rfl ?_
      refine g_aload_n (i := 0) (q := 26) dX6_learnInTime_25 rfl rfl rfl ?_
      refine g_getv (q := 29) (z := S.1 0) dX6_learnInTime_26 rfl fk_X6_55 rfl rfl rfl ?_
      refine g_aload_n (i := 0) (q := 30) dX6_learnInTime_29 rfl rfl rfl ?_
      refine g_getr (q := 33) dX6_learnInTime_30 rfl fk_X6_16 rfl rfl ?_
      refine g_getr (q := 36) dX6_learnInTime_33 rfl fk_X6_231 rfl rfl ?_
      refine g_iload_n (i := 1) (q := 37) dX6_learnInTime_36 rfl rfl rfl ?_
      refine g_ildv (q := 38) (z := S.2.1 11 (i : Int)) dX6_learnInTime_37 rfl ⟨by decide, rfl, rfl⟩ (by omega) (by omega) rfl ?_
      refine g_isub (q := 39) dX6_learnInTime_38 rfl (by constructor <;> omega) ?_
      refine g_fnV (as := [zI (i : Int), zI ((S.1 0) - (S.2.1 11 (i : Int)))]) (q := 42) (u' := 0) dX6_learnInTime_39 rfl ck_X6_322 rfl rfl rfl (Nat.le_of_ble_eq_true rfl) (by decide) rfl (by decide) (s_X0_learnUpTo (a := (S.2.1 28 i).toNat) (by omega) hc2 h6 (by omega) (by omega) (fun j hj => hJ j (by omega) (by omega))) rfl ?_
      refine g_iinc (q := 45) (i := 1) (n := 1) dX6_learnInTime_42 rfl rfl (by constructor <;> omega) ?_
      refine g_goto (q := 0) (t := 2) dX6_learnInTime_45 (by decide) ?_
      exact hnx
    · have e : x_li1 S c2 i = S := by unfold x_li1; rw [if_neg e1]
      rw [e] at hnx
      refine g_iload_n (i := 1) (q := 3) dX6_learnInTime_2 rfl rfl rfl ?_
      refine g_bipush (q := 5) dX6_learnInTime_3 rfl ⟨by decide, by decide⟩ (by decide) ?_
      refine g_icmp_ge (t := 48) (q := 8) dX6_learnInTime_5 (by decide) rfl (fun h5 => (False.elim (by omega))) (fun h5 => ?_)
      refine g_aload_n (i := 0) (q := 9) dX6_learnInTime_8 rfl rfl rfl ?_
      refine g_getr (q := 12) dX6_learnInTime_9 rfl fk_X6_16 rfl rfl ?_
      refine g_getr (q := 15) dX6_learnInTime_12 rfl fk_X6_234 rfl rfl ?_
      refine g_iload_n (i := 1) (q := 16) dX6_learnInTime_15 rfl rfl rfl ?_
      refine g_zldv (q := 17) (z := S.2.1 10 (i : Int)) dX6_learnInTime_16 rfl ⟨by decide, rfl, rfl⟩ (by omega) (by omega) rfl ?_
      refine g_if_ne (t := 42) (q := 20) dX6_learnInTime_17 (by decide) rfl (fun h17 => ?_) (fun h17 => (False.elim (by omega)))
      refine g_iinc (q := 45) (i := 1) (n := 1) dX6_learnInTime_42 rfl rfl (by constructor <;> omega) ?_
      refine g_goto (q := 0) (t := 2) dX6_learnInTime_45 (by decide) ?_
      exact hnx
theorem s_X6_learnInTime {S : zS} {c c2 : Nat} (h6 : c2 ≤ 600) (P : xP S c) (hc2 : S.1 2 = c2) : z_Fn mX6_learnInTime [zR 0] S none (x_li S c2 0 6) := by
  refine z_enter (by decide +kernel) rfl (z_n1 trivial z_n0) (Nat.le_of_ble_eq_true rfl) ?_
  refine g_iconst (q := 1) dX6_learnInTime_0 rfl ⟨by decide, by decide⟩ ?_
  refine g_istore_n (i := 1) (q := 2) dX6_learnInTime_1 rfl rfl (by decide) ?_
  exact l_X6_learnInTime h6 6 0 S (by omega) P hc2 ⟨rfl, rfl⟩
theorem xP_li {c c2 : Nat} : ∀ (k i : Nat) (S : zS), i + k = 6 → xP S c → S.1 2 = c2 → xP (x_li S c2 i k) c ∧ (x_li S c2 i k).1 = S.1
  | 0, _, _, _, P, _ => ⟨P, rfl⟩
  | k + 1, i, S, hi, P, hc2 => by
    rw [x_li]
    have h1 := xP_li1 P hc2 (f := (i : Int)) (by omega)
    have h2 := xP_li (c := c) (c2 := c2) k (i + 1) (x_li1 S c2 i) (by omega) h1.1 (by rw [h1.2]; exact hc2)
    exact ⟨h2.1, h2.2.trans h1.2⟩
/-- one minute -/
def x_min (S : zS) (c : Nat) : zS := x_li (x_cd (z_sS S 0 (S.1 0 + 1)) c 0 c) ((x_cd (z_sS S 0 (S.1 0 + 1)) c 0 c).1 2).toNat 0 6
def x_minn (S : zS) (c : Nat) : Int := x_cdn (z_sS S 0 (S.1 0 + 1)) c 0 c
def x_ps (S : zS) (c : Nat) : Nat → zS
  | 0 => S
  | k + 1 => x_ps (x_min S c) c k
def x_psn (S : zS) (c : Nat) : Nat → Int
  | 0 => 0
  | k + 1 => x_minn S c + x_psn (x_min S c) c k
theorem xP_tick {S : zS} {c : Nat} (P : xP S c) (h : S.1 0 < 9999) : xP (z_sS S 0 (S.1 0 + 1)) c := by
  obtain ⟨hc, h60, hnow, hc2', hc3, hO, hN, hJ, hF⟩ := P
  exact ⟨hc, h60, show 0 ≤ S.1 0 + 1 ∧ S.1 0 + 1 ≤ 9999 by omega, hc2', hc3, hO, hN, hJ, hF⟩
theorem xP_min {S : zS} {c : Nat} (P : xP S c) (h : S.1 0 < 9999) : xP (x_min S c) c ∧ (x_min S c).1 2 = (x_cd (z_sS S 0 (S.1 0 + 1)) c 0 c).1 2 ∧ (x_min S c).1 3 = (x_cd (z_sS S 0 (S.1 0 + 1)) c 0 c).1 3 ∧ (x_min S c).1 0 = (x_cd (z_sS S 0 (S.1 0 + 1)) c 0 c).1 0 := by
  have h1 := xP_cd c 0 _ (by omega) (xP_tick P h)
  have h2 := xP_li (c := c) 6 0 _ (by omega) h1 (c2 := ((x_cd (z_sS S 0 (S.1 0 + 1)) c 0 c).1 2).toNat) (by have := h1.2.2.2.1; omega)
  exact ⟨h2.1, congrFun h2.2 2, congrFun h2.2 3, congrFun h2.2 0⟩
theorem x_co_now {S : zS} {c : Nat} {o : Int} : (x_co S c o).1 0 = S.1 0 := by
  unfold x_co
  split
  · rfl
  · split <;> rfl
theorem x_cd_now {c : Nat} : ∀ (k i : Nat) (S : zS), (x_cd S c i k).1 0 = S.1 0
  | 0, _, _ => rfl
  | k + 1, i, S => by
    rw [x_cd, x_cd_now k (i + 1)]
    split
    · exact x_co_now
    · rfl
theorem x_min_now {S : zS} {c : Nat} (P : xP S c) (h : S.1 0 < 9999) : (x_min S c).1 0 = S.1 0 + 1 := by
  rw [(xP_min P h).2.2.2, x_cd_now]
  rfl
theorem x_ps_mono {c : Nat} : ∀ (k : Nat) (S : zS), xP S c → S.1 0 + k ≤ 9999 → S.1 2 ≤ (x_ps S c k).1 2 ∧ S.1 3 ≤ (x_ps S c k).1 3
  | 0, _, _, _ => ⟨Int.le_refl _, Int.le_refl _⟩
  | k + 1, S, P, h => by
    have hm := xP_min P (by omega)
    have h1 := x_ps_mono k (x_min S c) hm.1 (by rw [x_min_now P (by omega)]; omega)
    have h2 := x_cd_mono (c := c) c 0 (z_sS S 0 (S.1 0 + 1))
    rw [x_ps]
    exact ⟨Int.le_trans h2.1 (by rw [← hm.2.1]; exact h1.1), Int.le_trans h2.2 (by rw [← hm.2.2.1]; exact h1.2)⟩
theorem l_X6_pass {Q : zQ} {c : Nat} {m : Nat} (hm : m ≤ 100) : ∀ (k i : Nat) (S : zS) (d : Int), i + k = m → xP S c → S.1 0 + k ≤ 9999 → (x_ps S c k).1 2 ≤ 600 → (x_ps S c k).1 3 ≤ 572 → 0 ≤ d ∧ d ≤ i * 60 → Q (.ok (some (zI (d + x_psn S c k)))) (x_ps S c k) → z_G mX6_pass (z_F mX6_pass Q) 0 47 [some (zR 0), some (zI (m : Int)), some (zI d), some (zI (i : Int))] [] S := by
  intro k
  induction k with
  | zero =>
    intro i S d hi P hn h2 h3 hd hQ
    rw [x_psn, Int.add_zero] at hQ
    refine g_iload_n (i := 3) (q := 48) dX6_pass_47 rfl rfl rfl ?_
    refine g_iload_n (i := 1) (q := 49) dX6_pass_48 rfl rfl rfl ?_
    refine g_icmp_ge (t := 79) (q := 52) dX6_pass_49 (by decide) rfl (fun h49 => ?_) (fun h49 => (False.elim (by omega)))
    refine g_iload_n (i := 2) (q := 80) dX6_pass_79 rfl rfl rfl ?_
    exact g_ret dX6_pass_80 rfl (by decide) hQ
  | succ k ih =>
    intro i S d hi P hn h2 h3 hd hQ
    rw [x_psn] at hQ
    rw [x_ps] at hQ h2 h3
    have hmi := xP_min P (by omega)
    have hmn := x_min_now P (by omega)
    have hmo := x_ps_mono k (x_min S c) hmi.1 (by omega)
    have hcd := xP_cd c 0 _ (by omega) (xP_tick P (by omega))
    have hnn := x_cdn_rng (c := c) c 0 (z_sS S 0 (S.1 0 + 1))
    have hc0 := hcd.2.2.2.1
    have h60 := P.2.1
    have hnow := P.2.2.1
    have hnx := ih (i + 1) (x_min S c) (d + x_minn S c) (by omega) hmi.1 (by omega) h2 h3 (by unfold x_minn; omega) (by rw [Int.add_assoc]; exact hQ)
    refine g_iload_n (i := 3) (q := 48) dX6_pass_47 rfl rfl rfl ?_
    refine g_iload_n (i := 1) (q := 49) dX6_pass_48 rfl rfl rfl ?_
    refine g_icmp_ge (t := 79) (q := 52) dX6_pass_49 (by decide) rfl (fun h49 => (False.elim (by omega))) (fun h49 => ?_)
    refine g_aload_n (i := 0) (q := 53) dX6_pass_52 rfl rfl rfl ?_
    refine g_dup (q := 54) dX6_pass_53 rfl trivial ?_
    refine g_getv (q := 57) (z := S.1 0) dX6_pass_54 rfl fk_X6_55 rfl rfl rfl ?_
    refine g_iconst (q := 58) dX6_pass_57 rfl ⟨by decide, by decide⟩ ?_
    refine g_iadd (q := 59) dX6_pass_58 rfl (by constructor <;> omega) ?_
    refine g_put (q := 62) dX6_pass_59 rfl fk_X6_55 fp_6_7 rfl rfl ?_
    refine g_iload_n (i := 2) (q := 63) dX6_pass_62 rfl rfl rfl ?_
    refine g_aload_n (i := 0) (q := 64) dX6_pass_63 rfl rfl rfl ?_
    refine g_fnV (as := []) (q := 67) (u' := 0) dX6_pass_64 rfl ck_X6_223 rfl rfl rfl (Nat.le_of_ble_eq_true rfl) (by decide) rfl (by decide) (s_X6_carryOutDueOrders (xP_tick P (by omega)) (by omega) (by omega)) rfl ?_
    refine g_iadd (q := 68) dX6_pass_67 rfl (by constructor <;> omega) ?_
    refine g_istore_n (i := 2) (q := 69) dX6_pass_68 rfl rfl (by decide) ?_
    refine g_aload_n (i := 0) (q := 70) dX6_pass_69 rfl rfl rfl ?_
    refine g_fnV (as := []) (q := 73) (u' := 0) dX6_pass_70 rfl ck_X6_226 rfl rfl rfl (Nat.le_of_ble_eq_true rfl) (by decide) rfl (by decide) (s_X6_learnInTime (c2 := ((x_cd (z_sS S 0 (S.1 0 + 1)) c 0 c).1 2).toNat) (by omega) hcd (by omega)) rfl ?_
    refine g_iinc (q := 76) (i := 3) (n := 1) dX6_pass_73 rfl rfl (by constructor <;> omega) ?_
    refine g_goto (q := 0) (t := 47) dX6_pass_76 (by decide) ?_
    exact hnx
