/-! ===== the reference's public calls ===== -/
abbrev z_Ret (M : zM) (as : List zV) (S : zS) (p : Int × zS) : Prop := z_Fn M as S (some (zI p.1)) p.2
def p_give (S : zS) (b f : Int) : Int × zS := if ¬ ((0 ≤ b ∧ b < 20) ∧ (0 ≤ f ∧ f < 6)) then (0, z_sS S 5 1) else if ¬ S.2.1 40 b = -1 ∨ ¬ S.2.1 41 f = 0 then (0, z_sS S 5 2) else (y_bo (z_sA (z_sS S 5 0) 40 b f) f 20, z_sA (z_sS S 5 0) 40 b f)
theorem t_give {S : zS} {b f : Int} (hG : ∀ f : Int, 0 ≤ f → f < 6 → S.2.1 41 f = 0 ∨ S.2.1 41 f = 1) : z_Ret mX7_give [zR 7, zI b, zI f] S (p_give S b f) := by
  refine z_enter (by decide +kernel) rfl (z_n1 trivial (z_n1 trivial (z_n1 trivial z_n0))) (Nat.le_of_ble_eq_true rfl) ?_
  refine g_aload_n (i := 0) (q := 1) dX7_give_0 rfl rfl rfl ?_
  refine g_iload_n (i := 1) (q := 2) dX7_give_1 rfl rfl rfl ?_
  by_cases c2 : 0 ≤ b ∧ b < 20
  · refine g_fnS (as := [zI b]) (q := 5) (u' := 0) dX7_give_2 rfl ck_X7_94 rfl rfl (Nat.le_of_ble_eq_true rfl) (by decide) rfl (by decide) (t_isBlock_t c2) rfl ?_
    refine g_if_eq (t := 15) (q := 8) dX7_give_5 (by decide) rfl (fun h5 => (False.elim (by omega))) (fun h5 => ?_)
    refine g_iload_n (i := 2) (q := 9) dX7_give_8 rfl rfl rfl ?_
    by_cases c9 : 0 ≤ f ∧ f < 6
    · refine g_fnS (as := [zI f]) (q := 12) (u' := 0) dX7_give_9 rfl ck_X7_98 rfl rfl (Nat.le_of_ble_eq_true rfl) (by decide) rfl (by decide) (t_isFirm_t c9) rfl ?_
      refine g_if_ne (t := 19) (q := 15) dX7_give_12 (by decide) rfl (fun h12 => ?_) (fun h12 => (False.elim (by omega)))
      refine g_aload_n (i := 0) (q := 20) dX7_give_19 rfl rfl rfl ?_
      refine g_getr (q := 23) dX7_give_20 rfl fk_X7_7 rfl rfl ?_
      refine g_iload_n (i := 1) (q := 24) dX7_give_23 rfl rfl rfl ?_
      refine g_ildv (q := 25) (z := S.2.1 40 b) dX7_give_24 rfl ⟨by decide, rfl, rfl⟩ (by omega) (by omega) rfl ?_
      refine g_iconst (q := 26) dX7_give_25 rfl ⟨by decide, by decide⟩ ?_
      refine g_icmp_ne (t := 38) (q := 29) dX7_give_26 (by decide) rfl (fun h26 => ?_) (fun h26 => ?_)
      · refine g_iconst (q := 39) dX7_give_38 rfl ⟨by decide, by decide⟩ ?_
        refine g_goto (q := 0) (t := 43) dX7_give_39 (by decide) ?_
        refine g_put (q := 46) dX7_give_43 rfl fk_X7_80 fp_7_0 rfl rfl ?_
        refine g_aload_n (i := 0) (q := 47) dX7_give_46 rfl rfl rfl ?_
        refine g_getv (q := 50) (z := 2) dX7_give_47 rfl fk_X7_80 rfl rfl rfl ?_
        refine g_if_le (t := 55) (q := 53) dX7_give_50 (by decide) rfl (fun h50 => (False.elim (by omega))) (fun h50 => ?_)
        refine g_iconst (q := 54) dX7_give_53 rfl ⟨by decide, by decide⟩ ?_
        exact g_ret dX7_give_54 rfl (by decide) (by unfold p_give; (repeat (first | rw [if_pos (by omega)] | rw [if_neg (by omega)])); exact ⟨rfl, rfl⟩)
      · refine g_aload_n (i := 0) (q := 30) dX7_give_29 rfl rfl rfl ?_
        refine g_getr (q := 33) dX7_give_30 rfl fk_X7_13 rfl rfl ?_
        refine g_iload_n (i := 2) (q := 34) dX7_give_33 rfl rfl rfl ?_
        refine g_zldv (q := 35) (z := S.2.1 41 f) dX7_give_34 rfl ⟨by decide, rfl, rfl⟩ (by omega) (by omega) rfl ?_
        refine g_if_eq (t := 42) (q := 38) dX7_give_35 (by decide) rfl (fun h35 => ?_) (fun h35 => ?_)
        · refine g_iconst (q := 43) dX7_give_42 rfl ⟨by decide, by decide⟩ ?_
          refine g_put (q := 46) dX7_give_43 rfl fk_X7_80 fp_7_0 rfl rfl ?_
          refine g_aload_n (i := 0) (q := 47) dX7_give_46 rfl rfl rfl ?_
          refine g_getv (q := 50) (z := 0) dX7_give_47 rfl fk_X7_80 rfl rfl rfl ?_
          refine g_if_le (t := 55) (q := 53) dX7_give_50 (by decide) rfl (fun h50 => ?_) (fun h50 => (False.elim (by omega)))
          refine g_aload_n (i := 0) (q := 56) dX7_give_55 rfl rfl rfl ?_
          refine g_getr (q := 59) dX7_give_56 rfl fk_X7_7 rfl rfl ?_
          refine g_iload_n (i := 1) (q := 60) dX7_give_59 rfl rfl rfl ?_
          refine g_iload_n (i := 2) (q := 61) dX7_give_60 rfl rfl rfl ?_
          refine g_iast (q := 62) dX7_give_61 rfl ⟨by decide, rfl, rfl⟩ (by omega) (by omega) ?_
          refine g_aload_n (i := 0) (q := 63) dX7_give_62 rfl rfl rfl ?_
          refine g_iload_n (i := 2) (q := 64) dX7_give_63 rfl rfl rfl ?_
          refine g_fnV (as := [zI f]) (q := 67) (u' := 0) dX7_give_64 rfl ck_X7_101 rfl rfl rfl (Nat.le_of_ble_eq_true rfl) (by decide) rfl (by decide) (t_blocksOf) rfl ?_
          exact g_ret dX7_give_67 rfl (by decide) (by unfold p_give; (repeat (first | rw [if_pos (by omega)] | rw [if_neg (by omega)])); exact ⟨rfl, rfl⟩)
        · refine g_iconst (q := 39) dX7_give_38 rfl ⟨by decide, by decide⟩ ?_
          refine g_goto (q := 0) (t := 43) dX7_give_39 (by decide) ?_
          refine g_put (q := 46) dX7_give_43 rfl fk_X7_80 fp_7_0 rfl rfl ?_
          refine g_aload_n (i := 0) (q := 47) dX7_give_46 rfl rfl rfl ?_
          refine g_getv (q := 50) (z := 2) dX7_give_47 rfl fk_X7_80 rfl rfl rfl ?_
          refine g_if_le (t := 55) (q := 53) dX7_give_50 (by decide) rfl (fun h50 => (False.elim (by omega))) (fun h50 => ?_)
          refine g_iconst (q := 54) dX7_give_53 rfl ⟨by decide, by decide⟩ ?_
          exact g_ret dX7_give_54 rfl (by decide) (by unfold p_give; (repeat (first | rw [if_pos (by omega)] | rw [if_neg (by omega)])); exact ⟨rfl, rfl⟩)
    · refine g_fnS (as := [zI f]) (q := 12) (u' := 0) dX7_give_9 rfl ck_X7_98 rfl rfl (Nat.le_of_ble_eq_true rfl) (by decide) rfl (by decide) (t_isFirm_f c9) rfl ?_
      refine g_if_ne (t := 19) (q := 15) dX7_give_12 (by decide) rfl (fun h12 => (False.elim (by omega))) (fun h12 => ?_)
      refine g_iconst (q := 16) dX7_give_15 rfl ⟨by decide, by decide⟩ ?_
      refine g_goto (q := 0) (t := 43) dX7_give_16 (by decide) ?_
      refine g_put (q := 46) dX7_give_43 rfl fk_X7_80 fp_7_0 rfl rfl ?_
      refine g_aload_n (i := 0) (q := 47) dX7_give_46 rfl rfl rfl ?_
      refine g_getv (q := 50) (z := 1) dX7_give_47 rfl fk_X7_80 rfl rfl rfl ?_
      refine g_if_le (t := 55) (q := 53) dX7_give_50 (by decide) rfl (fun h50 => (False.elim (by omega))) (fun h50 => ?_)
      refine g_iconst (q := 54) dX7_give_53 rfl ⟨by decide, by decide⟩ ?_
      exact g_ret dX7_give_54 rfl (by decide) (by unfold p_give; (repeat (first | rw [if_pos (by omega)] | rw [if_neg (by omega)])); exact ⟨rfl, rfl⟩)
  · refine g_fnS (as := [zI b]) (q := 5) (u' := 0) dX7_give_2 rfl ck_X7_94 rfl rfl (Nat.le_of_ble_eq_true rfl) (by decide) rfl (by decide) (t_isBlock_f c2) rfl ?_
    refine g_if_eq (t := 15) (q := 8) dX7_give_5 (by decide) rfl (fun h5 => ?_) (fun h5 => (False.elim (by omega)))
    refine g_iconst (q := 16) dX7_give_15 rfl ⟨by decide, by decide⟩ ?_
    refine g_goto (q := 0) (t := 43) dX7_give_16 (by decide) ?_
    refine g_put (q := 46) dX7_give_43 rfl fk_X7_80 fp_7_0 rfl rfl ?_
    refine g_aload_n (i := 0) (q := 47) dX7_give_46 rfl rfl rfl ?_
    refine g_getv (q := 50) (z := 1) dX7_give_47 rfl fk_X7_80 rfl rfl rfl ?_
    refine g_if_le (t := 55) (q := 53) dX7_give_50 (by decide) rfl (fun h50 => (False.elim (by omega))) (fun h50 => ?_)
    refine g_iconst (q := 54) dX7_give_53 rfl ⟨by decide, by decide⟩ ?_
    exact g_ret dX7_give_54 rfl (by decide) (by unfold p_give; (repeat (first | rw [if_pos (by omega)] | rw [if_neg (by omega)])); exact ⟨rfl, rfl⟩)
def y_gb (S : zS) : Nat → Nat → Bool
  | _, 0 => false
  | i, k + 1 => if ¬ S.2.1 42 i = -1 ∨ S.1 6 - S.2.1 44 i < 100 then true else y_gb S (i + 1) k
def p_giveBack (S : zS) (b : Int) : Int × zS := if ¬ (0 ≤ b ∧ b < 20) then (0, z_sS S 5 1) else if S.2.1 40 b = -1 then (0, z_sS S 5 2) else if y_gb S (10 * b.toNat) 10 = true then (0, z_sS S 5 2) else (S.2.1 40 b, z_sA (z_sS S 5 0) 40 b (-1))
theorem l_X7_giveBack {Q : zQ} {S : zS} {b : Nat} {B : Bool} (hb : b < 20) (hM : yM S) (hQ : Q (.ok (some (zI (if B = true then (0, z_sS S 5 2) else (S.2.1 40 b, z_sA (z_sS S 5 0) 40 b (-1))).1))) (if B = true then (0, z_sS S 5 2) else (S.2.1 40 b, z_sA (z_sS S 5 0) 40 b (-1))).2) : ∀ (k i : Nat), i + k = 10 * b + 10 → B = y_gb S i k → z_G mX7_giveBack (z_F mX7_giveBack Q) 0 35 [some (zR 7), some (zI (b : Int)), some (zI (i : Int))] [] (z_sS S 5 0) := by
  intro k
  induction k with
  | zero =>
    intro i hi hw
    rw [hw, y_gb] at hQ
    refine g_aload_n (i := 0) (q := 36) dX7_giveBack_35 rfl rfl rfl ?_
    refine g_getv (q := 39) (z := 0) dX7_giveBack_36 rfl fk_X7_80 rfl rfl rfl ?_
    refine g_if_ne (t := 86) (q := 42) dX7_giveBack_39 (by decide) rfl (fun h39 => (False.elim (by omega))) (fun h39 => ?_)
    refine g_iload_n (i := 2) (q := 43) dX7_giveBack_42 rfl rfl rfl ?_
    refine g_bipush (q := 45) dX7_giveBack_43 rfl ⟨by decide, by decide⟩ (by decide) ?_
    refine g_iload_n (i := 1) (q := 46) dX7_giveBack_45 rfl rfl rfl ?_
    refine g_imul (q := 47) dX7_giveBack_46 rfl (by constructor <;> omega) ?_
    refine g_bipush (q := 49) dX7_giveBack_47 rfl ⟨by decide, by decide⟩ (by decide) ?_
    refine g_iadd (q := 50) dX7_giveBack_49 rfl (by constructor <;> omega) ?_
    refine g_icmp_ge (t := 86) (q := 53) dX7_giveBack_50 (by decide) rfl (fun h50 => ?_) (fun h50 => (False.elim (by omega)))
    refine g_aload_n (i := 0) (q := 87) dX7_giveBack_86 rfl rfl rfl ?_
    refine g_getv (q := 90) (z := 0) dX7_giveBack_87 rfl fk_X7_80 rfl rfl rfl ?_
    refine g_if_le (t := 95) (q := 93) dX7_giveBack_90 (by decide) rfl (fun h90 => ?_) (fun h90 => (False.elim (by omega)))
    refine g_aload_n (i := 0) (q := 96) dX7_giveBack_95 rfl rfl rfl ?_
    refine g_getr (q := 99) dX7_giveBack_96 rfl fk_X7_7 rfl rfl ?_
    refine g_iload_n (i := 1) (q := 100) dX7_giveBack_99 rfl rfl rfl ?_
    refine g_ildv (q := 101) (z := (z_sS S 5 0).2.1 40 (b : Int)) dX7_giveBack_100 rfl ⟨by decide, rfl, rfl⟩ (by omega) (by omega) rfl ?_
    refine g_istore_n (i := 2) (q := 102) dX7_giveBack_101 rfl rfl (by decide) ?_
    refine g_aload_n (i := 0) (q := 103) dX7_giveBack_102 rfl rfl rfl ?_
    refine g_getr (q := 106) dX7_giveBack_103 rfl fk_X7_7 rfl rfl ?_
    refine g_iload_n (i := 1) (q := 107) dX7_giveBack_106 rfl rfl rfl ?_
    refine g_iconst (q := 108) dX7_giveBack_107 rfl ⟨by decide, by decide⟩ ?_
    refine g_iast (q := 109) dX7_giveBack_108 rfl ⟨by decide, rfl, rfl⟩ (by omega) (by omega) ?_
    refine g_iload_n (i := 2) (q := 110) dX7_giveBack_109 rfl rfl rfl ?_
    exact g_ret dX7_giveBack_110 rfl (by decide) hQ
  | succ k ih =>
    intro i hi hw
    rw [y_gb] at hw
    have hnow := hM.1
    have hmm := hM.2 i (by omega) (by omega)
    have kB : B = true → z_G mX7_giveBack (z_F mX7_giveBack Q) 0 35 [some (zR 7), some (zI (b : Int)), some (zI ((i : Int) + 1))] [] (z_sS S 5 2) := by
      intro hh
      rw [if_pos hh] at hQ
      refine g_aload_n (i := 0) (q := 36) dX7_giveBack_35 rfl rfl rfl ?_
      refine g_getv (q := 39) (z := 2) dX7_giveBack_36 rfl fk_X7_80 rfl rfl rfl ?_
      refine g_if_ne (t := 86) (q := 42) dX7_giveBack_39 (by decide) rfl (fun h39 => ?_) (fun h39 => (False.elim (by omega)))
      refine g_aload_n (i := 0) (q := 87) dX7_giveBack_86 rfl rfl rfl ?_
      refine g_getv (q := 90) (z := 2) dX7_giveBack_87 rfl fk_X7_80 rfl rfl rfl ?_
      refine g_if_le (t := 95) (q := 93) dX7_giveBack_90 (by decide) rfl (fun h90 => (False.elim (by omega))) (fun h90 => ?_)
      refine g_iconst (q := 94) dX7_giveBack_93 rfl ⟨by decide, by decide⟩ ?_
      exact g_ret dX7_giveBack_94 rfl (by decide) hQ
    by_cases e1 : S.2.1 42 i = -1
    · by_cases e2 : S.1 6 - S.2.1 44 i < 100
      · rw [if_pos (.inr e2)] at hw
        refine g_aload_n (i := 0) (q := 36) dX7_giveBack_35 rfl rfl rfl ?_
        refine g_getv (q := 39) (z := 0) dX7_giveBack_36 rfl fk_X7_80 rfl rfl rfl ?_
        refine g_if_ne (t := 86) (q := 42) dX7_giveBack_39 (by decide) rfl (fun h39 => (False.elim (by omega))) (fun h39 => ?_)
        refine g_iload_n (i := 2) (q := 43) dX7_giveBack_42 rfl rfl rfl ?_
        refine g_bipush (q := 45) dX7_giveBack_43 rfl ⟨by decide, by decide⟩ (by decide) ?_
        refine g_iload_n (i := 1) (q := 46) dX7_giveBack_45 rfl rfl rfl ?_
        refine g_imul (q := 47) dX7_giveBack_46 rfl (by constructor <;> omega) ?_
        refine g_bipush (q := 49) dX7_giveBack_47 rfl ⟨by decide, by decide⟩ (by decide) ?_
        refine g_iadd (q := 50) dX7_giveBack_49 rfl (by constructor <;> omega) ?_
        refine g_icmp_ge (t := 86) (q := 53) dX7_giveBack_50 (by decide) rfl (fun h50 => (False.elim (by omega))) (fun h50 => ?_)
        refine g_aload_n (i := 0) (q := 54) dX7_giveBack_53 rfl rfl rfl ?_
        refine g_aload_n (i := 0) (q := 55) dX7_giveBack_54 rfl rfl rfl ?_
        refine g_getr (q := 58) dX7_giveBack_55 rfl fk_X7_17 rfl rfl ?_
        refine g_iload_n (i := 2) (q := 59) dX7_giveBack_58 rfl rfl rfl ?_
        refine g_ildv (q := 60) (z := S.2.1 42 (i : Int)) dX7_giveBack_59 rfl ⟨by decide, rfl, rfl⟩ (by omega) (by omega) rfl ?_
        refine g_iconst (q := 61) dX7_giveBack_60 rfl ⟨by decide, by decide⟩ ?_
        refine g_icmp_ne (t := 72) (q := 64) dX7_giveBack_61 (by decide) rfl (fun h61 => (False.elim (by omega))) (fun h61 => ?_)
        refine g_aload_n (i := 0) (q := 65) dX7_giveBack_64 rfl rfl rfl ?_
        refine g_iload_n (i := 2) (q := 66) dX7_giveBack_65 rfl rfl rfl ?_
        refine g_fnV (as := [zI (i : Int)]) (q := 69) (u' := 0) dX7_giveBack_66 rfl ck_X7_105 rfl rfl rfl (Nat.le_of_ble_eq_true rfl) (by decide) rfl (by decide) (t_isQuarantined_t (S := z_sS S 5 0) hM (by omega) e2) rfl ?_
        refine g_if_eq (t := 76) (q := 72) dX7_giveBack_69 (by decide) rfl (fun h69 => (False.elim (by omega))) (fun h69 => ?_)
        refine g_iconst (q := 73) dX7_giveBack_72 rfl ⟨by decide, by decide⟩ ?_
        refine g_goto (q := 0) (t := 77) dX7_giveBack_73 (by decide) ?_
        refine g_put (q := 80) dX7_giveBack_77 rfl fk_X7_80 fp_7_0 rfl rfl ?_
        refine g_iinc (q := 83) (i := 2) (n := 1) dX7_giveBack_80 rfl rfl (by constructor <;> omega) ?_
        refine g_goto (q := 0) (t := 35) dX7_giveBack_83 (by decide) ?_
        rw [z_sS_sS]
        exact kB hw
      · rw [if_neg (by omega)] at hw
        refine g_aload_n (i := 0) (q := 36) dX7_giveBack_35 rfl rfl rfl ?_
        refine g_getv (q := 39) (z := 0) dX7_giveBack_36 rfl fk_X7_80 rfl rfl rfl ?_
        refine g_if_ne (t := 86) (q := 42) dX7_giveBack_39 (by decide) rfl (fun h39 => (False.elim (by omega))) (fun h39 => ?_)
        refine g_iload_n (i := 2) (q := 43) dX7_giveBack_42 rfl rfl rfl ?_
        refine g_bipush (q := 45) dX7_giveBack_43 rfl ⟨by decide, by decide⟩ (by decide) ?_
        refine g_iload_n (i := 1) (q := 46) dX7_giveBack_45 rfl rfl rfl ?_
        refine g_imul (q := 47) dX7_giveBack_46 rfl (by constructor <;> omega) ?_
        refine g_bipush (q := 49) dX7_giveBack_47 rfl ⟨by decide, by decide⟩ (by decide) ?_
        refine g_iadd (q := 50) dX7_giveBack_49 rfl (by constructor <;> omega) ?_
        refine g_icmp_ge (t := 86) (q := 53) dX7_giveBack_50 (by decide) rfl (fun h50 => (False.elim (by omega))) (fun h50 => ?_)
        refine g_aload_n (i := 0) (q := 54) dX7_giveBack_53 rfl rfl rfl ?_
        refine g_aload_n (i := 0) (q := 55) dX7_giveBack_54 rfl rfl rfl ?_
        refine g_getr (q := 58) dX7_giveBack_55 rfl fk_X7_17 rfl rfl ?_
        refine g_iload_n (i := 2) (q := 59) dX7_giveBack_58 rfl rfl rfl ?_
        refine g_ildv (q := 60) (z := S.2.1 42 (i : Int)) dX7_giveBack_59 rfl ⟨by decide, rfl, rfl⟩ (by omega) (by omega) rfl ?_
        refine g_iconst (q := 61) dX7_giveBack_60 rfl ⟨by decide, by decide⟩ ?_
        refine g_icmp_ne (t := 72) (q := 64) dX7_giveBack_61 (by decide) rfl (fun h61 => (False.elim (by omega))) (fun h61 => ?_)
        refine g_aload_n (i := 0) (q := 65) dX7_giveBack_64 rfl rfl rfl ?_
        refine g_iload_n (i := 2) (q := 66) dX7_giveBack_65 rfl rfl rfl ?_
        refine g_fnV (as := [zI (i : Int)]) (q := 69) (u' := 0) dX7_giveBack_66 rfl ck_X7_105 rfl rfl rfl (Nat.le_of_ble_eq_true rfl) (by decide) rfl (by decide) (t_isQuarantined_f (S := z_sS S 5 0) hM (by omega) e2) rfl ?_
        refine g_if_eq (t := 76) (q := 72) dX7_giveBack_69 (by decide) rfl (fun h69 => ?_) (fun h69 => (False.elim (by omega)))
        refine g_iconst (q := 77) dX7_giveBack_76 rfl ⟨by decide, by decide⟩ ?_
        refine g_put (q := 80) dX7_giveBack_77 rfl fk_X7_80 fp_7_0 rfl rfl ?_
        refine g_iinc (q := 83) (i := 2) (n := 1) dX7_giveBack_80 rfl rfl (by constructor <;> omega) ?_
        refine g_goto (q := 0) (t := 35) dX7_giveBack_83 (by decide) ?_
        rw [z_sS_sS]
        exact ih (i + 1) (by omega) hw
    · rw [if_pos (.inl e1)] at hw
      refine g_aload_n (i := 0) (q := 36) dX7_giveBack_35 rfl rfl rfl ?_
      refine g_getv (q := 39) (z := 0) dX7_giveBack_36 rfl fk_X7_80 rfl rfl rfl ?_
      refine g_if_ne (t := 86) (q := 42) dX7_giveBack_39 (by decide) rfl (fun h39 => (False.elim (by omega))) (fun h39 => ?_)
      refine g_iload_n (i := 2) (q := 43) dX7_giveBack_42 rfl rfl rfl ?_
      refine g_bipush (q := 45) dX7_giveBack_43 rfl ⟨by decide, by decide⟩ (by decide) ?_
      refine g_iload_n (i := 1) (q := 46) dX7_giveBack_45 rfl rfl rfl ?_
      refine g_imul (q := 47) dX7_giveBack_46 rfl (by constructor <;> omega) ?_
      refine g_bipush (q := 49) dX7_giveBack_47 rfl ⟨by decide, by decide⟩ (by decide) ?_
      refine g_iadd (q := 50) dX7_giveBack_49 rfl (by constructor <;> omega) ?_
      refine g_icmp_ge (t := 86) (q := 53) dX7_giveBack_50 (by decide) rfl (fun h50 => (False.elim (by omega))) (fun h50 => ?_)
      refine g_aload_n (i := 0) (q := 54) dX7_giveBack_53 rfl rfl rfl ?_
      refine g_aload_n (i := 0) (q := 55) dX7_giveBack_54 rfl rfl rfl ?_
      refine g_getr (q := 58) dX7_giveBack_55 rfl fk_X7_17 rfl rfl ?_
      refine g_iload_n (i := 2) (q := 59) dX7_giveBack_58 rfl rfl rfl ?_
      refine g_ildv (q := 60) (z := S.2.1 42 (i : Int)) dX7_giveBack_59 rfl ⟨by decide, rfl, rfl⟩ (by omega) (by omega) rfl ?_
      refine g_iconst (q := 61) dX7_giveBack_60 rfl ⟨by decide, by decide⟩ ?_
      refine g_icmp_ne (t := 72) (q := 64) dX7_giveBack_61 (by decide) rfl (fun h61 => ?_) (fun h61 => (False.elim (by omega)))
      refine g_iconst (q := 73) dX7_giveBack_72 rfl ⟨by decide, by decide⟩ ?_
      refine g_goto (q := 0) (t := 77) dX7_giveBack_73 (by decide) ?_
      refine g_put (q := 80) dX7_giveBack_77 rfl fk_X7_80 fp_7_0 rfl rfl ?_
      refine g_iinc (q := 83) (i := 2) (n := 1) dX7_giveBack_80 rfl rfl (by constructor <;> omega) ?_
      refine g_goto (q := 0) (t := 35) dX7_giveBack_83 (by decide) ?_
      rw [z_sS_sS]
      exact kB hw
theorem t_giveBack {S : zS} {b : Int} (hM : yM S) : z_Ret mX7_giveBack [zR 7, zI b] S (p_giveBack S b) := by
  refine z_enter (by decide +kernel) rfl (z_n1 trivial (z_n1 trivial z_n0)) (Nat.le_of_ble_eq_true rfl) ?_
  by_cases hb : 0 ≤ b ∧ b < 20
  · obtain ⟨k, rfl⟩ : ∃ k : Nat, b = k := ⟨b.toNat, by omega⟩
    by_cases e1 : S.2.1 40 k = -1
    · skip
      refine g_aload_n (i := 0) (q := 1) dX7_giveBack_0 rfl rfl rfl ?_
      refine g_iload_n (i := 1) (q := 2) dX7_giveBack_1 rfl rfl rfl ?_
      refine g_fnS (as := [zI (k : Int)]) (q := 5) (u' := 0) dX7_giveBack_2 rfl ck_X7_94 rfl rfl (Nat.le_of_ble_eq_true rfl) (by decide) rfl (by decide) (t_isBlock_t hb) rfl ?_
      refine g_if_ne (t := 12) (q := 8) dX7_giveBack_5 (by decide) rfl (fun h5 => ?_) (fun h5 => (False.elim (by omega)))
      refine g_aload_n (i := 0) (q := 13) dX7_giveBack_12 rfl rfl rfl ?_
      refine g_getr (q := 16) dX7_giveBack_13 rfl fk_X7_7 rfl rfl ?_
      refine g_iload_n (i := 1) (q := 17) dX7_giveBack_16 rfl rfl rfl ?_
      refine g_ildv (q := 18) (z := S.2.1 40 (k : Int)) dX7_giveBack_17 rfl ⟨by decide, rfl, rfl⟩ (by omega) (by omega) rfl ?_
      refine g_iconst (q := 19) dX7_giveBack_18 rfl ⟨by decide, by decide⟩ ?_
      refine g_icmp_ne (t := 26) (q := 22) dX7_giveBack_19 (by decide) rfl (fun h19 => (False.elim (by omega))) (fun h19 => ?_)
      refine g_iconst (q := 23) dX7_giveBack_22 rfl ⟨by decide, by decide⟩ ?_
      refine g_goto (q := 0) (t := 27) dX7_giveBack_23 (by decide) ?_
      refine g_put (q := 30) dX7_giveBack_27 rfl fk_X7_80 fp_7_0 rfl rfl ?_
      refine g_bipush (q := 32) dX7_giveBack_30 rfl ⟨by decide, by decide⟩ (by decide) ?_
      refine g_iload_n (i := 1) (q := 33) dX7_giveBack_32 rfl rfl rfl ?_
      refine g_imul (q := 34) dX7_giveBack_33 rfl (by constructor <;> omega) ?_
      refine g_istore_n (i := 2) (q := 35) dX7_giveBack_34 rfl rfl (by decide) ?_
      refine g_aload_n (i := 0) (q := 36) dX7_giveBack_35 rfl rfl rfl ?_
      refine g_getv (q := 39) (z := 2) dX7_giveBack_36 rfl fk_X7_80 rfl rfl rfl ?_
      refine g_if_ne (t := 86) (q := 42) dX7_giveBack_39 (by decide) rfl (fun h39 => ?_) (fun h39 => (False.elim (by omega)))
      refine g_aload_n (i := 0) (q := 87) dX7_giveBack_86 rfl rfl rfl ?_
      refine g_getv (q := 90) (z := 2) dX7_giveBack_87 rfl fk_X7_80 rfl rfl rfl ?_
      refine g_if_le (t := 95) (q := 93) dX7_giveBack_90 (by decide) rfl (fun h90 => (False.elim (by omega))) (fun h90 => ?_)
      refine g_iconst (q := 94) dX7_giveBack_93 rfl ⟨by decide, by decide⟩ ?_
      exact g_ret dX7_giveBack_94 rfl (by decide) (by unfold p_giveBack; (repeat (first | rw [if_pos (by omega)] | rw [if_neg (by omega)])); exact ⟨rfl, rfl⟩)
    · skip
      refine g_aload_n (i := 0) (q := 1) dX7_giveBack_0 rfl rfl rfl ?_
      refine g_iload_n (i := 1) (q := 2) dX7_giveBack_1 rfl rfl rfl ?_
      refine g_fnS (as := [zI (k : Int)]) (q := 5) (u' := 0) dX7_giveBack_2 rfl ck_X7_94 rfl rfl (Nat.le_of_ble_eq_true rfl) (by decide) rfl (by decide) (t_isBlock_t hb) rfl ?_
      refine g_if_ne (t := 12) (q := 8) dX7_giveBack_5 (by decide) rfl (fun h5 => ?_) (fun h5 => (False.elim (by omega)))
      refine g_aload_n (i := 0) (q := 13) dX7_giveBack_12 rfl rfl rfl ?_
      refine g_getr (q := 16) dX7_giveBack_13 rfl fk_X7_7 rfl rfl ?_
      refine g_iload_n (i := 1) (q := 17) dX7_giveBack_16 rfl rfl rfl ?_
      refine g_ildv (q := 18) (z := S.2.1 40 (k : Int)) dX7_giveBack_17 rfl ⟨by decide, rfl, rfl⟩ (by omega) (by omega) rfl ?_
      refine g_iconst (q := 19) dX7_giveBack_18 rfl ⟨by decide, by decide⟩ ?_
      refine g_icmp_ne (t := 26) (q := 22) dX7_giveBack_19 (by decide) rfl (fun h19 => ?_) (fun h19 => (False.elim (by omega)))
      refine g_iconst (q := 27) dX7_giveBack_26 rfl ⟨by decide, by decide⟩ ?_
      refine g_put (q := 30) dX7_giveBack_27 rfl fk_X7_80 fp_7_0 rfl rfl ?_
      refine g_bipush (q := 32) dX7_giveBack_30 rfl ⟨by decide, by decide⟩ (by decide) ?_
      refine g_iload_n (i := 1) (q := 33) dX7_giveBack_32 rfl rfl rfl ?_
      refine g_imul (q := 34) dX7_giveBack_33 rfl (by constructor <;> omega) ?_
      refine g_istore_n (i := 2) (q := 35) dX7_giveBack_34 rfl rfl (by decide) ?_
      have hx := l_X7_giveBack (S := S) (b := k) (Q := fun x T => x = .ok (some (zI (p_giveBack S k).1)) ∧ T = (p_giveBack S k).2) (by omega) hM (by unfold p_giveBack; rw [Int.toNat_natCast, if_neg (show ¬ ¬ (0 ≤ (k : Int) ∧ (k : Int) < 20) by omega), if_neg e1]; exact ⟨rfl, rfl⟩) 10 (10 * k) (by omega) rfl
      rw [show ((10 * k : Nat) : Int) = 10 * (k : Int) by omega] at hx
      exact hx
  · skip
    refine g_aload_n (i := 0) (q := 1) dX7_giveBack_0 rfl rfl rfl ?_
    refine g_iload_n (i := 1) (q := 2) dX7_giveBack_1 rfl rfl rfl ?_
    refine g_fnS (as := [zI b]) (q := 5) (u' := 0) dX7_giveBack_2 rfl ck_X7_94 rfl rfl (Nat.le_of_ble_eq_true rfl) (by decide) rfl (by decide) (t_isBlock_f hb) rfl ?_
    refine g_if_ne (t := 12) (q := 8) dX7_giveBack_5 (by decide) rfl (fun h5 => (False.elim (by omega))) (fun h5 => ?_)
    refine g_iconst (q := 9) dX7_giveBack_8 rfl ⟨by decide, by decide⟩ ?_
    refine g_goto (q := 0) (t := 27) dX7_giveBack_9 (by decide) ?_
    refine g_put (q := 30) dX7_giveBack_27 rfl fk_X7_80 fp_7_0 rfl rfl ?_
    refine g_bipush (q := 32) dX7_giveBack_30 rfl ⟨by decide, by decide⟩ (by decide) ?_
    refine g_iload_n (i := 1) (q := 33) dX7_giveBack_32 rfl rfl rfl ?_
    refine g_imulw (q := 34) dX7_giveBack_33 rfl ?_
    refine g_istore_n (i := 2) (q := 35) dX7_giveBack_34 rfl rfl (by decide) ?_
    refine g_aload_n (i := 0) (q := 36) dX7_giveBack_35 rfl rfl rfl ?_
    refine g_getv (q := 39) (z := 1) dX7_giveBack_36 rfl fk_X7_80 rfl rfl rfl ?_
    refine g_if_ne (t := 86) (q := 42) dX7_giveBack_39 (by decide) rfl (fun h39 => ?_) (fun h39 => (False.elim (by omega)))
    refine g_aload_n (i := 0) (q := 87) dX7_giveBack_86 rfl rfl rfl ?_
    refine g_getv (q := 90) (z := 1) dX7_giveBack_87 rfl fk_X7_80 rfl rfl rfl ?_
    refine g_if_le (t := 95) (q := 93) dX7_giveBack_90 (by decide) rfl (fun h90 => (False.elim (by omega))) (fun h90 => ?_)
    refine g_iconst (q := 94) dX7_giveBack_93 rfl ⟨by decide, by decide⟩ ?_
    exact g_ret dX7_giveBack_94 rfl (by decide) (by unfold p_giveBack; (repeat (first | rw [if_pos (by omega)] | rw [if_neg (by omega)])); exact ⟨rfl, rfl⟩)
def p_assign (S : zS) (n t : Int) : Int × zS := if ¬ (0 ≤ n ∧ n < 200) then (0, z_sS S 5 1) else if ¬ (0 ≤ t ∧ t < 100) then (0, z_sS S 5 2) else if S.2.1 40 (n / 10) = -1 ∨ ¬ S.2.1 42 n = -1 ∨ S.1 6 - S.2.1 44 n < 100 then (0, z_sS S 5 3) else (S.2.1 40 (n / 10), z_sA (z_sA (z_sA (z_sS S 5 0) 42 n (S.2.1 40 (n / 10))) 47 n (-1)) 43 n t)
theorem t_assign {S : zS} {n t : Int} (hM : yM S) : z_Ret mX7_assign [zR 7, zI n, zI t] S (p_assign S n t) := by
  refine z_enter (by decide +kernel) rfl (z_n1 trivial (z_n1 trivial (z_n1 trivial z_n0))) (Nat.le_of_ble_eq_true rfl) ?_
  refine g_aload_n (i := 0) (q := 1) dX7_assign_0 rfl rfl rfl ?_
  refine g_iload_n (i := 1) (q := 2) dX7_assign_1 rfl rfl rfl ?_
  by_cases c2 : 0 ≤ n ∧ n < 200
  · refine g_fnS (as := [zI n]) (q := 5) (u' := 0) dX7_assign_2 rfl ck_X7_108 rfl rfl (Nat.le_of_ble_eq_true rfl) (by decide) rfl (by decide) (t_isNumber_t c2) rfl ?_
    refine g_if_ne (t := 12) (q := 8) dX7_assign_5 (by decide) rfl (fun h5 => ?_) (fun h5 => (False.elim (by omega)))
    refine g_iload_n (i := 2) (q := 13) dX7_assign_12 rfl rfl rfl ?_
    by_cases c13 : 0 ≤ t ∧ t < 100
    · refine g_fnS (as := [zI t]) (q := 16) (u' := 0) dX7_assign_13 rfl ck_X7_111 rfl rfl (Nat.le_of_ble_eq_true rfl) (by decide) rfl (by decide) (t_isSecret_t c13) rfl ?_
      refine g_if_ne (t := 23) (q := 19) dX7_assign_16 (by decide) rfl (fun h16 => ?_) (fun h16 => (False.elim (by omega)))
      refine g_aload_n (i := 0) (q := 24) dX7_assign_23 rfl rfl rfl ?_
      refine g_iload_n (i := 1) (q := 25) dX7_assign_24 rfl rfl rfl ?_
      refine g_fnV (as := [zI n]) (q := 28) (u' := 0) dX7_assign_25 rfl ck_X7_114 rfl rfl rfl (Nat.le_of_ble_eq_true rfl) (by decide) rfl (by decide) (t_holderOf (by omega)) rfl ?_
      refine g_iconst (q := 29) dX7_assign_28 rfl ⟨by decide, by decide⟩ ?_
      refine g_icmp_eq (t := 50) (q := 32) dX7_assign_29 (by decide) rfl (fun h29 => ?_) (fun h29 => ?_)
      · refine g_iconst (q := 51) dX7_assign_50 rfl ⟨by decide, by decide⟩ ?_
        refine g_goto (q := 0) (t := 55) dX7_assign_51 (by decide) ?_
        refine g_put (q := 58) dX7_assign_55 rfl fk_X7_80 fp_7_0 rfl rfl ?_
        refine g_aload_n (i := 0) (q := 59) dX7_assign_58 rfl rfl rfl ?_
        refine g_getv (q := 62) (z := 3) dX7_assign_59 rfl fk_X7_80 rfl rfl rfl ?_
        refine g_if_le (t := 67) (q := 65) dX7_assign_62 (by decide) rfl (fun h62 => (False.elim (by omega))) (fun h62 => ?_)
        refine g_iconst (q := 66) dX7_assign_65 rfl ⟨by decide, by decide⟩ ?_
        exact g_ret dX7_assign_66 rfl (by decide) (by unfold p_assign; (repeat (first | rw [if_pos (by omega)] | rw [if_neg (by omega)])); exact ⟨rfl, rfl⟩)
      · refine g_aload_n (i := 0) (q := 33) dX7_assign_32 rfl rfl rfl ?_
        refine g_getr (q := 36) dX7_assign_33 rfl fk_X7_17 rfl rfl ?_
        refine g_iload_n (i := 1) (q := 37) dX7_assign_36 rfl rfl rfl ?_
        refine g_ildv (q := 38) (z := S.2.1 42 n) dX7_assign_37 rfl ⟨by decide, rfl, rfl⟩ (by omega) (by omega) rfl ?_
        refine g_iconst (q := 39) dX7_assign_38 rfl ⟨by decide, by decide⟩ ?_
        refine g_icmp_ne (t := 50) (q := 42) dX7_assign_39 (by decide) rfl (fun h39 => ?_) (fun h39 => ?_)
        · refine g_iconst (q := 51) dX7_assign_50 rfl ⟨by decide, by decide⟩ ?_
          refine g_goto (q := 0) (t := 55) dX7_assign_51 (by decide) ?_
          refine g_put (q := 58) dX7_assign_55 rfl fk_X7_80 fp_7_0 rfl rfl ?_
          refine g_aload_n (i := 0) (q := 59) dX7_assign_58 rfl rfl rfl ?_
          refine g_getv (q := 62) (z := 3) dX7_assign_59 rfl fk_X7_80 rfl rfl rfl ?_
          refine g_if_le (t := 67) (q := 65) dX7_assign_62 (by decide) rfl (fun h62 => (False.elim (by omega))) (fun h62 => ?_)
          refine g_iconst (q := 66) dX7_assign_65 rfl ⟨by decide, by decide⟩ ?_
          exact g_ret dX7_assign_66 rfl (by decide) (by unfold p_assign; (repeat (first | rw [if_pos (by omega)] | rw [if_neg (by omega)])); exact ⟨rfl, rfl⟩)
        · refine g_aload_n (i := 0) (q := 43) dX7_assign_42 rfl rfl rfl ?_
          refine g_iload_n (i := 1) (q := 44) dX7_assign_43 rfl rfl rfl ?_
          by_cases c44 : (S).1 6 - (S).2.1 44 n < 100
          · refine g_fnV (as := [zI n]) (q := 47) (u' := 0) dX7_assign_44 rfl ck_X7_105 rfl rfl rfl (Nat.le_of_ble_eq_true rfl) (by decide) rfl (by decide) (t_isQuarantined_t hM (by omega) c44) rfl ?_
            refine g_if_eq (t := 54) (q := 50) dX7_assign_47 (by decide) rfl (fun h47 => (False.elim (by omega))) (fun h47 => ?_)
            refine g_iconst (q := 51) dX7_assign_50 rfl ⟨by decide, by decide⟩ ?_
            refine g_goto (q := 0) (t := 55) dX7_assign_51 (by decide) ?_
            refine g_put (q := 58) dX7_assign_55 rfl fk_X7_80 fp_7_0 rfl rfl ?_
            refine g_aload_n (i := 0) (q := 59) dX7_assign_58 rfl rfl rfl ?_
            refine g_getv (q := 62) (z := 3) dX7_assign_59 rfl fk_X7_80 rfl rfl rfl ?_
            refine g_if_le (t := 67) (q := 65) dX7_assign_62 (by decide) rfl (fun h62 => (False.elim (by omega))) (fun h62 => ?_)
            refine g_iconst (q := 66) dX7_assign_65 rfl ⟨by decide, by decide⟩ ?_
            exact g_ret dX7_assign_66 rfl (by decide) (by unfold p_assign; (repeat (first | rw [if_pos (by omega)] | rw [if_neg (by omega)])); exact ⟨rfl, rfl⟩)
          · refine g_fnV (as := [zI n]) (q := 47) (u' := 0) dX7_assign_44 rfl ck_X7_105 rfl rfl rfl (Nat.le_of_ble_eq_true rfl) (by decide) rfl (by decide) (t_isQuarantined_f hM (by omega) c44) rfl ?_
            refine g_if_eq (t := 54) (q := 50) dX7_assign_47 (by decide) rfl (fun h47 => ?_) (fun h47 => (False.elim (by omega)))
            refine g_iconst (q := 55) dX7_assign_54 rfl ⟨by decide, by decide⟩ ?_
            refine g_put (q := 58) dX7_assign_55 rfl fk_X7_80 fp_7_0 rfl rfl ?_
            refine g_aload_n (i := 0) (q := 59) dX7_assign_58 rfl rfl rfl ?_
            refine g_getv (q := 62) (z := 0) dX7_assign_59 rfl fk_X7_80 rfl rfl rfl ?_
            refine g_if_le (t := 67) (q := 65) dX7_assign_62 (by decide) rfl (fun h62 => ?_) (fun h62 => (False.elim (by omega)))
            refine g_aload_n (i := 0) (q := 68) dX7_assign_67 rfl rfl rfl ?_
            refine g_getr (q := 71) dX7_assign_68 rfl fk_X7_17 rfl rfl ?_
            refine g_iload_n (i := 1) (q := 72) dX7_assign_71 rfl rfl rfl ?_
            refine g_aload_n (i := 0) (q := 73) dX7_assign_72 rfl rfl rfl ?_
            refine g_iload_n (i := 1) (q := 74) dX7_assign_73 rfl rfl rfl ?_
            refine g_fnV (as := [zI n]) (q := 77) (u' := 0) dX7_assign_74 rfl ck_X7_114 rfl rfl rfl (Nat.le_of_ble_eq_true rfl) (by decide) rfl (by decide) (t_holderOf (S := z_sS S 5 0) (by omega)) rfl ?_
            refine g_iast (q := 78) dX7_assign_77 rfl ⟨by decide, rfl, rfl⟩ (by omega) (by omega) ?_
            refine g_aload_n (i := 0) (q := 79) dX7_assign_78 rfl rfl rfl ?_
            refine g_getr (q := 82) dX7_assign_79 rfl fk_X7_32 rfl rfl ?_
            refine g_iload_n (i := 1) (q := 83) dX7_assign_82 rfl rfl rfl ?_
            refine g_iconst (q := 84) dX7_assign_83 rfl ⟨by decide, by decide⟩ ?_
            refine g_iast (q := 85) dX7_assign_84 rfl ⟨by decide, rfl, rfl⟩ (by omega) (by omega) ?_
            refine g_aload_n (i := 0) (q := 86) dX7_assign_85 rfl rfl rfl ?_
            refine g_getr (q := 89) dX7_assign_86 rfl fk_X7_20 rfl rfl ?_
            refine g_iload_n (i := 1) (q := 90) dX7_assign_89 rfl rfl rfl ?_
            refine g_iload_n (i := 2) (q := 91) dX7_assign_90 rfl rfl rfl ?_
            refine g_iast (q := 92) dX7_assign_91 rfl ⟨by decide, rfl, rfl⟩ (by omega) (by omega) ?_
            refine g_aload_n (i := 0) (q := 93) dX7_assign_92 rfl rfl rfl ?_
            refine g_getr (q := 96) dX7_assign_93 rfl fk_X7_17 rfl rfl ?_
            refine g_iload_n (i := 1) (q := 97) dX7_assign_96 rfl rfl rfl ?_
            refine g_ildv (q := 98) (z := S.2.1 40 (n / 10)) dX7_assign_97 rfl ⟨by decide, rfl, rfl⟩ (by omega) (by omega) (by rw [za_ne (by omega), za_ne (by omega), za_eq]; rfl) ?_
            exact g_ret dX7_assign_98 rfl (by decide) (by unfold p_assign; (repeat (first | rw [if_pos (by omega)] | rw [if_neg (by omega)])); exact ⟨rfl, rfl⟩)
    · refine g_fnS (as := [zI t]) (q := 16) (u' := 0) dX7_assign_13 rfl ck_X7_111 rfl rfl (Nat.le_of_ble_eq_true rfl) (by decide) rfl (by decide) (t_isSecret_f c13) rfl ?_
      refine g_if_ne (t := 23) (q := 19) dX7_assign_16 (by decide) rfl (fun h16 => (False.elim (by omega))) (fun h16 => ?_)
      refine g_iconst (q := 20) dX7_assign_19 rfl ⟨by decide, by decide⟩ ?_
      refine g_goto (q := 0) (t := 55) dX7_assign_20 (by decide) ?_
      refine g_put (q := 58) dX7_assign_55 rfl fk_X7_80 fp_7_0 rfl rfl ?_
      refine g_aload_n (i := 0) (q := 59) dX7_assign_58 rfl rfl rfl ?_
      refine g_getv (q := 62) (z := 2) dX7_assign_59 rfl fk_X7_80 rfl rfl rfl ?_
      refine g_if_le (t := 67) (q := 65) dX7_assign_62 (by decide) rfl (fun h62 => (False.elim (by omega))) (fun h62 => ?_)
      refine g_iconst (q := 66) dX7_assign_65 rfl ⟨by decide, by decide⟩ ?_
      exact g_ret dX7_assign_66 rfl (by decide) (by unfold p_assign; (repeat (first | rw [if_pos (by omega)] | rw [if_neg (by omega)])); exact ⟨rfl, rfl⟩)
  · refine g_fnS (as := [zI n]) (q := 5) (u' := 0) dX7_assign_2 rfl ck_X7_108 rfl rfl (Nat.le_of_ble_eq_true rfl) (by decide) rfl (by decide) (t_isNumber_f c2) rfl ?_
    refine g_if_ne (t := 12) (q := 8) dX7_assign_5 (by decide) rfl (fun h5 => (False.elim (by omega))) (fun h5 => ?_)
    refine g_iconst (q := 9) dX7_assign_8 rfl ⟨by decide, by decide⟩ ?_
    refine g_goto (q := 0) (t := 55) dX7_assign_9 (by decide) ?_
    refine g_put (q := 58) dX7_assign_55 rfl fk_X7_80 fp_7_0 rfl rfl ?_
    refine g_aload_n (i := 0) (q := 59) dX7_assign_58 rfl rfl rfl ?_
    refine g_getv (q := 62) (z := 1) dX7_assign_59 rfl fk_X7_80 rfl rfl rfl ?_
    refine g_if_le (t := 67) (q := 65) dX7_assign_62 (by decide) rfl (fun h62 => (False.elim (by omega))) (fun h62 => ?_)
    refine g_iconst (q := 66) dX7_assign_65 rfl ⟨by decide, by decide⟩ ?_
    exact g_ret dX7_assign_66 rfl (by decide) (by unfold p_assign; (repeat (first | rw [if_pos (by omega)] | rw [if_neg (by omega)])); exact ⟨rfl, rfl⟩)
def y_fin (S : zS) (n : Int) : zS := z_sA (z_sA (z_sA (z_sA S 42 n (-1)) 44 n (S.1 6)) 45 n (-1000)) 46 n (-1000)
def y_en (S : zS) (n : Int) : zS := y_fin (if S.2.1 42 n = S.2.1 40 (n / 10) then S else y_chg S n 6) n
def y_ew (S : zS) (n : Int) (c : Nat) : zS := if y_wf S n c = -1 then S else z_sA S 48 (y_wf S n c) 3
def p_end (S : zS) (c : Nat) (n : Int) : Int × zS := if ¬ (0 ≤ n ∧ n < 200) then (0, z_sS S 5 1) else if S.2.1 42 n = -1 then (0, z_sS S 5 2) else (S.2.1 42 n, y_ew (y_en (z_sS S 5 0) n) n c)
theorem t_end {S : zS} {n : Int} {c : Nat} (hc : S.1 7 = c) (h60 : c ≤ 60) (h8 : 0 ≤ S.1 8 ∧ S.1 8 < 4000) : z_Ret mX7_end [zR 7, zI n] S (p_end S c n) := by
  refine z_enter (by decide +kernel) rfl (z_n1 trivial (z_n1 trivial z_n0)) (Nat.le_of_ble_eq_true rfl) ?_
  by_cases e1 : S.2.1 42 n = S.2.1 40 (n / 10)
  · have e : y_en (z_sS S 5 0) n = y_fin (z_sS S 5 0) n := by unfold y_en; exact congrArg (fun T => y_fin T n) (if_pos e1)
    have hw := y_wf_rng (S := y_fin (z_sS S 5 0) n) (n := n) c
    refine g_aload_n (i := 0) (q := 1) dX7_end_0 rfl rfl rfl ?_
    refine g_iload_n (i := 1) (q := 2) dX7_end_1 rfl rfl rfl ?_
    by_cases c2 : 0 ≤ n ∧ n < 200
    · refine g_fnS (as := [zI n]) (q := 5) (u' := 0) dX7_end_2 rfl ck_X7_108 rfl rfl (Nat.le_of_ble_eq_true rfl) (by decide) rfl (by decide) (t_isNumber_t c2) rfl ?_
      refine g_if_ne (t := 12) (q := 8) dX7_end_5 (by decide) rfl (fun h5 => ?_) (fun h5 => (False.elim (by omega)))
      refine g_aload_n (i := 0) (q := 13) dX7_end_12 rfl rfl rfl ?_
      refine g_getr (q := 16) dX7_end_13 rfl fk_X7_17 rfl rfl ?_
      refine g_iload_n (i := 1) (q := 17) dX7_end_16 rfl rfl rfl ?_
      refine g_ildv (q := 18) (z := S.2.1 42 n) dX7_end_17 rfl ⟨by decide, rfl, rfl⟩ (by omega) (by omega) rfl ?_
      refine g_iconst (q := 19) dX7_end_18 rfl ⟨by decide, by decide⟩ ?_
      refine g_icmp_ne (t := 26) (q := 22) dX7_end_19 (by decide) rfl (fun h19 => ?_) (fun h19 => ?_)
      · refine g_iconst (q := 27) dX7_end_26 rfl ⟨by decide, by decide⟩ ?_
        refine g_put (q := 30) dX7_end_27 rfl fk_X7_80 fp_7_0 rfl rfl ?_
        refine g_aload_n (i := 0) (q := 31) dX7_end_30 rfl rfl rfl ?_
        refine g_getv (q := 34) (z := 0) dX7_end_31 rfl fk_X7_80 rfl rfl rfl ?_
        refine g_if_le (t := 39) (q := 37) dX7_end_34 (by decide) rfl (fun h34 => ?_) (fun h34 => (False.elim (by omega)))
        refine g_aload_n (i := 0) (q := 40) dX7_end_39 rfl rfl rfl ?_
        refine g_getr (q := 43) dX7_end_40 rfl fk_X7_17 rfl rfl ?_
        refine g_iload_n (i := 1) (q := 44) dX7_end_43 rfl rfl rfl ?_
        refine g_ildv (q := 45) (z := S.2.1 42 n) dX7_end_44 rfl ⟨by decide, rfl, rfl⟩ (by omega) (by omega) rfl ?_
        refine g_istore_n (i := 2) (q := 46) dX7_end_45 rfl rfl (by decide) ?_
        refine g_iload_n (i := 2) (q := 47) dX7_end_46 rfl rfl rfl ?_
        refine g_aload_n (i := 0) (q := 48) dX7_end_47 rfl rfl rfl ?_
        refine g_iload_n (i := 1) (q := 49) dX7_end_48 rfl rfl rfl ?_
        refine g_fnV (as := [zI n]) (q := 52) (u' := 0) dX7_end_49 rfl ck_X7_114 rfl rfl rfl (Nat.le_of_ble_eq_true rfl) (by decide) rfl (by decide) (t_holderOf (S := z_sS S 5 0) (by omega)) rfl ?_
        refine g_top (z := S.2.1 40 (n / 10)) rfl ?_
        refine g_icmp_eq (t := 62) (q := 55) dX7_end_52 (by decide) rfl (fun h52 => ?_) (fun h52 => (False.elim (by omega)))
        refine g_aload_n (i := 0) (q := 63) dX7_end_62 rfl rfl rfl ?_
        refine g_getr (q := 66) dX7_end_63 rfl fk_X7_17 rfl rfl ?_
        refine g_iload_n (i := 1) (q := 67) dX7_end_66 rfl rfl rfl ?_
        refine g_iconst (q := 68) dX7_end_67 rfl ⟨by decide, by decide⟩ ?_
        refine g_iast (q := 69) dX7_end_68 rfl ⟨by decide, rfl, rfl⟩ (by omega) (by omega) ?_
        refine g_aload_n (i := 0) (q := 70) dX7_end_69 rfl rfl rfl ?_
        refine g_getr (q := 73) dX7_end_70 rfl fk_X7_23 rfl rfl ?_
        refine g_iload_n (i := 1) (q := 74) dX7_end_73 rfl rfl rfl ?_
        refine g_aload_n (i := 0) (q := 75) dX7_end_74 rfl rfl rfl ?_
        refine g_getv (q := 78) (z := S.1 6) dX7_end_75 rfl fk_X7_91 rfl rfl rfl ?_
        refine g_iast (q := 79) dX7_end_78 rfl ⟨by decide, rfl, rfl⟩ (by omega) (by omega) ?_
        refine g_aload_n (i := 0) (q := 80) dX7_end_79 rfl rfl rfl ?_
        refine g_getr (q := 83) dX7_end_80 rfl fk_X7_26 rfl rfl ?_
        refine g_iload_n (i := 1) (q := 84) dX7_end_83 rfl rfl rfl ?_
        refine g_sipush (q := 87) dX7_end_84 rfl ⟨by decide, by decide⟩ (by decide) ?_
        refine g_iast (q := 88) dX7_end_87 rfl ⟨by decide, rfl, rfl⟩ (by omega) (by omega) ?_
        refine g_aload_n (i := 0) (q := 89) dX7_end_88 rfl rfl rfl ?_
        refine g_getr (q := 92) dX7_end_89 rfl fk_X7_29 rfl rfl ?_
        refine g_iload_n (i := 1) (q := 93) dX7_end_92 rfl rfl rfl ?_
        refine g_sipush (q := 96) dX7_end_93 rfl ⟨by decide, by decide⟩ (by decide) ?_
        refine g_iast (q := 97) dX7_end_96 rfl ⟨by decide, rfl, rfl⟩ (by omega) (by omega) ?_
        refine g_aload_n (i := 0) (q := 98) dX7_end_97 rfl rfl rfl ?_
        refine g_iload_n (i := 1) (q := 99) dX7_end_98 rfl rfl rfl ?_
        refine g_fnV (as := [zI n]) (q := 102) (u' := 0) dX7_end_99 rfl ck_X7_123 rfl rfl rfl (Nat.le_of_ble_eq_true rfl) (by decide) rfl (by decide) (t_waitingFor (S := y_fin (z_sS S 5 0) n) hc h60) rfl ?_
        refine g_istore_n (i := 3) (q := 103) dX7_end_102 rfl rfl (by decide) ?_
        refine g_iload_n (i := 3) (q := 104) dX7_end_103 rfl rfl rfl ?_
        refine g_iconst (q := 105) dX7_end_104 rfl ⟨by decide, by decide⟩ ?_
        refine g_icmp_eq (t := 115) (q := 108) dX7_end_105 (by decide) rfl (fun h105 => ?_) (fun h105 => ?_)
        · refine g_iload_n (i := 2) (q := 116) dX7_end_115 rfl rfl rfl ?_
          exact g_ret dX7_end_116 rfl (by decide) (by unfold p_end y_ew; rw [e]; (repeat (first | rw [if_pos (by omega)] | rw [if_neg (by omega)])); exact ⟨rfl, rfl⟩)
        · refine g_aload_n (i := 0) (q := 109) dX7_end_108 rfl rfl rfl ?_
          refine g_getr (q := 112) dX7_end_109 rfl fk_X7_35 rfl rfl ?_
          refine g_iload_n (i := 3) (q := 113) dX7_end_112 rfl rfl rfl ?_
          refine g_iconst (q := 114) dX7_end_113 rfl ⟨by decide, by decide⟩ ?_
          refine g_iast (q := 115) dX7_end_114 rfl ⟨by decide, rfl, rfl⟩ (by omega) (by omega) ?_
          refine g_iload_n (i := 2) (q := 116) dX7_end_115 rfl rfl rfl ?_
          exact g_ret dX7_end_116 rfl (by decide) (by unfold p_end y_ew; rw [e]; (repeat (first | rw [if_pos (by omega)] | rw [if_neg (by omega)])); exact ⟨rfl, rfl⟩)
      · refine g_iconst (q := 23) dX7_end_22 rfl ⟨by decide, by decide⟩ ?_
        refine g_goto (q := 0) (t := 27) dX7_end_23 (by decide) ?_
        refine g_put (q := 30) dX7_end_27 rfl fk_X7_80 fp_7_0 rfl rfl ?_
        refine g_aload_n (i := 0) (q := 31) dX7_end_30 rfl rfl rfl ?_
        refine g_getv (q := 34) (z := 2) dX7_end_31 rfl fk_X7_80 rfl rfl rfl ?_
        refine g_if_le (t := 39) (q := 37) dX7_end_34 (by decide) rfl (fun h34 => (False.elim (by omega))) (fun h34 => ?_)
        refine g_iconst (q := 38) dX7_end_37 rfl ⟨by decide, by decide⟩ ?_
        exact g_ret dX7_end_38 rfl (by decide) (by unfold p_end; (repeat (first | rw [if_pos (by omega)] | rw [if_neg (by omega)])); exact ⟨rfl, rfl⟩)
    · refine g_fnS (as := [zI n]) (q := 5) (u' := 0) dX7_end_2 rfl ck_X7_108 rfl rfl (Nat.le_of_ble_eq_true rfl) (by decide) rfl (by decide) (t_isNumber_f c2) rfl ?_
      refine g_if_ne (t := 12) (q := 8) dX7_end_5 (by decide) rfl (fun h5 => (False.elim (by omega))) (fun h5 => ?_)
      refine g_iconst (q := 9) dX7_end_8 rfl ⟨by decide, by decide⟩ ?_
      refine g_goto (q := 0) (t := 27) dX7_end_9 (by decide) ?_
      refine g_put (q := 30) dX7_end_27 rfl fk_X7_80 fp_7_0 rfl rfl ?_
      refine g_aload_n (i := 0) (q := 31) dX7_end_30 rfl rfl rfl ?_
      refine g_getv (q := 34) (z := 1) dX7_end_31 rfl fk_X7_80 rfl rfl rfl ?_
      refine g_if_le (t := 39) (q := 37) dX7_end_34 (by decide) rfl (fun h34 => (False.elim (by omega))) (fun h34 => ?_)
      refine g_iconst (q := 38) dX7_end_37 rfl ⟨by decide, by decide⟩ ?_
      exact g_ret dX7_end_38 rfl (by decide) (by unfold p_end; (repeat (first | rw [if_pos (by omega)] | rw [if_neg (by omega)])); exact ⟨rfl, rfl⟩)
  · have e : y_en (z_sS S 5 0) n = y_fin (y_chg (z_sS S 5 0) n 6) n := by unfold y_en; exact congrArg (fun T => y_fin T n) (if_neg e1)
    have hw := y_wf_rng (S := y_fin (y_chg (z_sS S 5 0) n 6) n) (n := n) c
    refine g_aload_n (i := 0) (q := 1) dX7_end_0 rfl rfl rfl ?_
    refine g_iload_n (i := 1) (q := 2) dX7_end_1 rfl rfl rfl ?_
    by_cases c2 : 0 ≤ n ∧ n < 200
    · refine g_fnS (as := [zI n]) (q := 5) (u' := 0) dX7_end_2 rfl ck_X7_108 rfl rfl (Nat.le_of_ble_eq_true rfl) (by decide) rfl (by decide) (t_isNumber_t c2) rfl ?_
      refine g_if_ne (t := 12) (q := 8) dX7_end_5 (by decide) rfl (fun h5 => ?_) (fun h5 => (False.elim (by omega)))
      refine g_aload_n (i := 0) (q := 13) dX7_end_12 rfl rfl rfl ?_
      refine g_getr (q := 16) dX7_end_13 rfl fk_X7_17 rfl rfl ?_
      refine g_iload_n (i := 1) (q := 17) dX7_end_16 rfl rfl rfl ?_
      refine g_ildv (q := 18) (z := S.2.1 42 n) dX7_end_17 rfl ⟨by decide, rfl, rfl⟩ (by omega) (by omega) rfl ?_
      refine g_iconst (q := 19) dX7_end_18 rfl ⟨by decide, by decide⟩ ?_
      refine g_icmp_ne (t := 26) (q := 22) dX7_end_19 (by decide) rfl (fun h19 => ?_) (fun h19 => ?_)
      · refine g_iconst (q := 27) dX7_end_26 rfl ⟨by decide, by decide⟩ ?_
        refine g_put (q := 30) dX7_end_27 rfl fk_X7_80 fp_7_0 rfl rfl ?_
        refine g_aload_n (i := 0) (q := 31) dX7_end_30 rfl rfl rfl ?_
        refine g_getv (q := 34) (z := 0) dX7_end_31 rfl fk_X7_80 rfl rfl rfl ?_
        refine g_if_le (t := 39) (q := 37) dX7_end_34 (by decide) rfl (fun h34 => ?_) (fun h34 => (False.elim (by omega)))
        refine g_aload_n (i := 0) (q := 40) dX7_end_39 rfl rfl rfl ?_
        refine g_getr (q := 43) dX7_end_40 rfl fk_X7_17 rfl rfl ?_
        refine g_iload_n (i := 1) (q := 44) dX7_end_43 rfl rfl rfl ?_
        refine g_ildv (q := 45) (z := S.2.1 42 n) dX7_end_44 rfl ⟨by decide, rfl, rfl⟩ (by omega) (by omega) rfl ?_
        refine g_istore_n (i := 2) (q := 46) dX7_end_45 rfl rfl (by decide) ?_
        refine g_iload_n (i := 2) (q := 47) dX7_end_46 rfl rfl rfl ?_
        refine g_aload_n (i := 0) (q := 48) dX7_end_47 rfl rfl rfl ?_
        refine g_iload_n (i := 1) (q := 49) dX7_end_48 rfl rfl rfl ?_
        refine g_fnV (as := [zI n]) (q := 52) (u' := 0) dX7_end_49 rfl ck_X7_114 rfl rfl rfl (Nat.le_of_ble_eq_true rfl) (by decide) rfl (by decide) (t_holderOf (S := z_sS S 5 0) (by omega)) rfl ?_
        refine g_top (z := S.2.1 40 (n / 10)) rfl ?_
        refine g_icmp_eq (t := 62) (q := 55) dX7_end_52 (by decide) rfl (fun h52 => (False.elim (by omega))) (fun h52 => ?_)
        refine g_aload_n (i := 0) (q := 56) dX7_end_55 rfl rfl rfl ?_
        refine g_iload_n (i := 1) (q := 57) dX7_end_56 rfl rfl rfl ?_
        refine g_bipush (q := 59) dX7_end_57 rfl ⟨by decide, by decide⟩ (by decide) ?_
        refine g_fnV (as := [zI n, zI 6]) (q := 62) (u' := 0) dX7_end_59 rfl ck_X7_120 rfl rfl rfl (Nat.le_of_ble_eq_true rfl) (by decide) rfl (by decide) (t_changes (S := z_sS S 5 0) h8) rfl ?_
        refine g_aload_n (i := 0) (q := 63) dX7_end_62 rfl rfl rfl ?_
        refine g_getr (q := 66) dX7_end_63 rfl fk_X7_17 rfl rfl ?_
        refine g_iload_n (i := 1) (q := 67) dX7_end_66 rfl rfl rfl ?_
        refine g_iconst (q := 68) dX7_end_67 rfl ⟨by decide, by decide⟩ ?_
        refine g_iast (q := 69) dX7_end_68 rfl ⟨by decide, rfl, rfl⟩ (by omega) (by omega) ?_
        refine g_aload_n (i := 0) (q := 70) dX7_end_69 rfl rfl rfl ?_
        refine g_getr (q := 73) dX7_end_70 rfl fk_X7_23 rfl rfl ?_
        refine g_iload_n (i := 1) (q := 74) dX7_end_73 rfl rfl rfl ?_
        refine g_aload_n (i := 0) (q := 75) dX7_end_74 rfl rfl rfl ?_
        refine g_getv (q := 78) (z := (y_chg (z_sS S 5 0) n 6).1 6) dX7_end_75 rfl fk_X7_91 rfl rfl rfl ?_
        refine g_iast (q := 79) dX7_end_78 rfl ⟨by decide, rfl, rfl⟩ (by omega) (by omega) ?_
        refine g_aload_n (i := 0) (q := 80) dX7_end_79 rfl rfl rfl ?_
        refine g_getr (q := 83) dX7_end_80 rfl fk_X7_26 rfl rfl ?_
        refine g_iload_n (i := 1) (q := 84) dX7_end_83 rfl rfl rfl ?_
        refine g_sipush (q := 87) dX7_end_84 rfl ⟨by decide, by decide⟩ (by decide) ?_
        refine g_iast (q := 88) dX7_end_87 rfl ⟨by decide, rfl, rfl⟩ (by omega) (by omega) ?_
        refine g_aload_n (i := 0) (q := 89) dX7_end_88 rfl rfl rfl ?_
        refine g_getr (q := 92) dX7_end_89 rfl fk_X7_29 rfl rfl ?_
        refine g_iload_n (i := 1) (q := 93) dX7_end_92 rfl rfl rfl ?_
        refine g_sipush (q := 96) dX7_end_93 rfl ⟨by decide, by decide⟩ (by decide) ?_
        refine g_iast (q := 97) dX7_end_96 rfl ⟨by decide, rfl, rfl⟩ (by omega) (by omega) ?_
        refine g_aload_n (i := 0) (q := 98) dX7_end_97 rfl rfl rfl ?_
        refine g_iload_n (i := 1) (q := 99) dX7_end_98 rfl rfl rfl ?_
        refine g_fnV (as := [zI n]) (q := 102) (u' := 0) dX7_end_99 rfl ck_X7_123 rfl rfl rfl (Nat.le_of_ble_eq_true rfl) (by decide) rfl (by decide) (t_waitingFor (S := y_fin (y_chg (z_sS S 5 0) n 6) n) hc h60) rfl ?_
        refine g_istore_n (i := 3) (q := 103) dX7_end_102 rfl rfl (by decide) ?_
        refine g_iload_n (i := 3) (q := 104) dX7_end_103 rfl rfl rfl ?_
        refine g_iconst (q := 105) dX7_end_104 rfl ⟨by decide, by decide⟩ ?_
        refine g_icmp_eq (t := 115) (q := 108) dX7_end_105 (by decide) rfl (fun h105 => ?_) (fun h105 => ?_)
        · refine g_iload_n (i := 2) (q := 116) dX7_end_115 rfl rfl rfl ?_
          exact g_ret dX7_end_116 rfl (by decide) (by unfold p_end y_ew; rw [e]; (repeat (first | rw [if_pos (by omega)] | rw [if_neg (by omega)])); exact ⟨rfl, rfl⟩)
        · refine g_aload_n (i := 0) (q := 109) dX7_end_108 rfl rfl rfl ?_
          refine g_getr (q := 112) dX7_end_109 rfl fk_X7_35 rfl rfl ?_
          refine g_iload_n (i := 3) (q := 113) dX7_end_112 rfl rfl rfl ?_
          refine g_iconst (q := 114) dX7_end_113 rfl ⟨by decide, by decide⟩ ?_
          refine g_iast (q := 115) dX7_end_114 rfl ⟨by decide, rfl, rfl⟩ (by omega) (by omega) ?_
          refine g_iload_n (i := 2) (q := 116) dX7_end_115 rfl rfl rfl ?_
          exact g_ret dX7_end_116 rfl (by decide) (by unfold p_end y_ew; rw [e]; (repeat (first | rw [if_pos (by omega)] | rw [if_neg (by omega)])); exact ⟨rfl, rfl⟩)
      · refine g_iconst (q := 23) dX7_end_22 rfl ⟨by decide, by decide⟩ ?_
        refine g_goto (q := 0) (t := 27) dX7_end_23 (by decide) ?_
        refine g_put (q := 30) dX7_end_27 rfl fk_X7_80 fp_7_0 rfl rfl ?_
        refine g_aload_n (i := 0) (q := 31) dX7_end_30 rfl rfl rfl ?_
        refine g_getv (q := 34) (z := 2) dX7_end_31 rfl fk_X7_80 rfl rfl rfl ?_
        refine g_if_le (t := 39) (q := 37) dX7_end_34 (by decide) rfl (fun h34 => (False.elim (by omega))) (fun h34 => ?_)
        refine g_iconst (q := 38) dX7_end_37 rfl ⟨by decide, by decide⟩ ?_
        exact g_ret dX7_end_38 rfl (by decide) (by unfold p_end; (repeat (first | rw [if_pos (by omega)] | rw [if_neg (by omega)])); exact ⟨rfl, rfl⟩)
    · refine g_fnS (as := [zI n]) (q := 5) (u' := 0) dX7_end_2 rfl ck_X7_108 rfl rfl (Nat.le_of_ble_eq_true rfl) (by decide) rfl (by decide) (t_isNumber_f c2) rfl ?_
      refine g_if_ne (t := 12) (q := 8) dX7_end_5 (by decide) rfl (fun h5 => (False.elim (by omega))) (fun h5 => ?_)
      refine g_iconst (q := 9) dX7_end_8 rfl ⟨by decide, by decide⟩ ?_
      refine g_goto (q := 0) (t := 27) dX7_end_9 (by decide) ?_
      refine g_put (q := 30) dX7_end_27 rfl fk_X7_80 fp_7_0 rfl rfl ?_
      refine g_aload_n (i := 0) (q := 31) dX7_end_30 rfl rfl rfl ?_
      refine g_getv (q := 34) (z := 1) dX7_end_31 rfl fk_X7_80 rfl rfl rfl ?_
      refine g_if_le (t := 39) (q := 37) dX7_end_34 (by decide) rfl (fun h34 => (False.elim (by omega))) (fun h34 => ?_)
      refine g_iconst (q := 38) dX7_end_37 rfl ⟨by decide, by decide⟩ ?_
      exact g_ret dX7_end_38 rfl (by decide) (by unfold p_end; (repeat (first | rw [if_pos (by omega)] | rw [if_neg (by omega)])); exact ⟨rfl, rfl⟩)
def p_swap (S : zS) (n t : Int) : Int × zS := if ¬ (0 ≤ n ∧ n < 200) then (0, z_sS S 5 1) else if ¬ (0 ≤ t ∧ t < 100) then (0, z_sS S 5 2) else if S.2.1 42 n = -1 then (0, z_sS S 5 3) else (S.2.1 43 n, z_sA (z_sA (z_sS S 5 0) 43 n t) 45 n (S.1 6))
theorem t_swap {S : zS} {n t : Int} : z_Ret mX7_swap [zR 7, zI n, zI t] S (p_swap S n t) := by
  refine z_enter (by decide +kernel) rfl (z_n1 trivial (z_n1 trivial (z_n1 trivial z_n0))) (Nat.le_of_ble_eq_true rfl) ?_
  refine g_aload_n (i := 0) (q := 1) dX7_swap_0 rfl rfl rfl ?_
  refine g_iload_n (i := 1) (q := 2) dX7_swap_1 rfl rfl rfl ?_
  by_cases c2 : 0 ≤ n ∧ n < 200
  · refine g_fnS (as := [zI n]) (q := 5) (u' := 0) dX7_swap_2 rfl ck_X7_108 rfl rfl (Nat.le_of_ble_eq_true rfl) (by decide) rfl (by decide) (t_isNumber_t c2) rfl ?_
    refine g_if_ne (t := 12) (q := 8) dX7_swap_5 (by decide) rfl (fun h5 => ?_) (fun h5 => (False.elim (by omega)))
    refine g_iload_n (i := 2) (q := 13) dX7_swap_12 rfl rfl rfl ?_
    by_cases c13 : 0 ≤ t ∧ t < 100
    · refine g_fnS (as := [zI t]) (q := 16) (u' := 0) dX7_swap_13 rfl ck_X7_111 rfl rfl (Nat.le_of_ble_eq_true rfl) (by decide) rfl (by decide) (t_isSecret_t c13) rfl ?_
      refine g_if_ne (t := 23) (q := 19) dX7_swap_16 (by decide) rfl (fun h16 => ?_) (fun h16 => (False.elim (by omega)))
      refine g_aload_n (i := 0) (q := 24) dX7_swap_23 rfl rfl rfl ?_
      refine g_getr (q := 27) dX7_swap_24 rfl fk_X7_17 rfl rfl ?_
      refine g_iload_n (i := 1) (q := 28) dX7_swap_27 rfl rfl rfl ?_
      refine g_ildv (q := 29) (z := S.2.1 42 n) dX7_swap_28 rfl ⟨by decide, rfl, rfl⟩ (by omega) (by omega) rfl ?_
      refine g_iconst (q := 30) dX7_swap_29 rfl ⟨by decide, by decide⟩ ?_
      refine g_icmp_ne (t := 37) (q := 33) dX7_swap_30 (by decide) rfl (fun h30 => ?_) (fun h30 => ?_)
      · refine g_iconst (q := 38) dX7_swap_37 rfl ⟨by decide, by decide⟩ ?_
        refine g_put (q := 41) dX7_swap_38 rfl fk_X7_80 fp_7_0 rfl rfl ?_
        refine g_aload_n (i := 0) (q := 42) dX7_swap_41 rfl rfl rfl ?_
        refine g_getv (q := 45) (z := 0) dX7_swap_42 rfl fk_X7_80 rfl rfl rfl ?_
        refine g_if_le (t := 50) (q := 48) dX7_swap_45 (by decide) rfl (fun h45 => ?_) (fun h45 => (False.elim (by omega)))
        refine g_aload_n (i := 0) (q := 51) dX7_swap_50 rfl rfl rfl ?_
        refine g_getr (q := 54) dX7_swap_51 rfl fk_X7_20 rfl rfl ?_
        refine g_iload_n (i := 1) (q := 55) dX7_swap_54 rfl rfl rfl ?_
        refine g_ildv (q := 56) (z := S.2.1 43 n) dX7_swap_55 rfl ⟨by decide, rfl, rfl⟩ (by omega) (by omega) rfl ?_
        refine g_istore_n (i := 3) (q := 57) dX7_swap_56 rfl rfl (by decide) ?_
        refine g_aload_n (i := 0) (q := 58) dX7_swap_57 rfl rfl rfl ?_
        refine g_getr (q := 61) dX7_swap_58 rfl fk_X7_20 rfl rfl ?_
        refine g_iload_n (i := 1) (q := 62) dX7_swap_61 rfl rfl rfl ?_
        refine g_iload_n (i := 2) (q := 63) dX7_swap_62 rfl rfl rfl ?_
        refine g_iast (q := 64) dX7_swap_63 rfl ⟨by decide, rfl, rfl⟩ (by omega) (by omega) ?_
        refine g_aload_n (i := 0) (q := 65) dX7_swap_64 rfl rfl rfl ?_
        refine g_getr (q := 68) dX7_swap_65 rfl fk_X7_26 rfl rfl ?_
        refine g_iload_n (i := 1) (q := 69) dX7_swap_68 rfl rfl rfl ?_
        refine g_aload_n (i := 0) (q := 70) dX7_swap_69 rfl rfl rfl ?_
        refine g_getv (q := 73) (z := S.1 6) dX7_swap_70 rfl fk_X7_91 rfl rfl rfl ?_
        refine g_iast (q := 74) dX7_swap_73 rfl ⟨by decide, rfl, rfl⟩ (by omega) (by omega) ?_
        refine g_iload_n (i := 3) (q := 75) dX7_swap_74 rfl rfl rfl ?_
        exact g_ret dX7_swap_75 rfl (by decide) (by unfold p_swap; (repeat (first | rw [if_pos (by omega)] | rw [if_neg (by omega)])); exact ⟨rfl, rfl⟩)
      · refine g_iconst (q := 34) dX7_swap_33 rfl ⟨by decide, by decide⟩ ?_
        refine g_goto (q := 0) (t := 38) dX7_swap_34 (by decide) ?_
        refine g_put (q := 41) dX7_swap_38 rfl fk_X7_80 fp_7_0 rfl rfl ?_
        refine g_aload_n (i := 0) (q := 42) dX7_swap_41 rfl rfl rfl ?_
        refine g_getv (q := 45) (z := 3) dX7_swap_42 rfl fk_X7_80 rfl rfl rfl ?_
        refine g_if_le (t := 50) (q := 48) dX7_swap_45 (by decide) rfl (fun h45 => (False.elim (by omega))) (fun h45 => ?_)
        refine g_iconst (q := 49) dX7_swap_48 rfl ⟨by decide, by decide⟩ ?_
        exact g_ret dX7_swap_49 rfl (by decide) (by unfold p_swap; (repeat (first | rw [if_pos (by omega)] | rw [if_neg (by omega)])); exact ⟨rfl, rfl⟩)
    · refine g_fnS (as := [zI t]) (q := 16) (u' := 0) dX7_swap_13 rfl ck_X7_111 rfl rfl (Nat.le_of_ble_eq_true rfl) (by decide) rfl (by decide) (t_isSecret_f c13) rfl ?_
      refine g_if_ne (t := 23) (q := 19) dX7_swap_16 (by decide) rfl (fun h16 => (False.elim (by omega))) (fun h16 => ?_)
      refine g_iconst (q := 20) dX7_swap_19 rfl ⟨by decide, by decide⟩ ?_
      refine g_goto (q := 0) (t := 38) dX7_swap_20 (by decide) ?_
      refine g_put (q := 41) dX7_swap_38 rfl fk_X7_80 fp_7_0 rfl rfl ?_
      refine g_aload_n (i := 0) (q := 42) dX7_swap_41 rfl rfl rfl ?_
      refine g_getv (q := 45) (z := 2) dX7_swap_42 rfl fk_X7_80 rfl rfl rfl ?_
      refine g_if_le (t := 50) (q := 48) dX7_swap_45 (by decide) rfl (fun h45 => (False.elim (by omega))) (fun h45 => ?_)
      refine g_iconst (q := 49) dX7_swap_48 rfl ⟨by decide, by decide⟩ ?_
      exact g_ret dX7_swap_49 rfl (by decide) (by unfold p_swap; (repeat (first | rw [if_pos (by omega)] | rw [if_neg (by omega)])); exact ⟨rfl, rfl⟩)
  · refine g_fnS (as := [zI n]) (q := 5) (u' := 0) dX7_swap_2 rfl ck_X7_108 rfl rfl (Nat.le_of_ble_eq_true rfl) (by decide) rfl (by decide) (t_isNumber_f c2) rfl ?_
    refine g_if_ne (t := 12) (q := 8) dX7_swap_5 (by decide) rfl (fun h5 => (False.elim (by omega))) (fun h5 => ?_)
    refine g_iconst (q := 9) dX7_swap_8 rfl ⟨by decide, by decide⟩ ?_
    refine g_goto (q := 0) (t := 38) dX7_swap_9 (by decide) ?_
    refine g_put (q := 41) dX7_swap_38 rfl fk_X7_80 fp_7_0 rfl rfl ?_
    refine g_aload_n (i := 0) (q := 42) dX7_swap_41 rfl rfl rfl ?_
    refine g_getv (q := 45) (z := 1) dX7_swap_42 rfl fk_X7_80 rfl rfl rfl ?_
    refine g_if_le (t := 50) (q := 48) dX7_swap_45 (by decide) rfl (fun h45 => (False.elim (by omega))) (fun h45 => ?_)
    refine g_iconst (q := 49) dX7_swap_48 rfl ⟨by decide, by decide⟩ ?_
    exact g_ret dX7_swap_49 rfl (by decide) (by unfold p_swap; (repeat (first | rw [if_pos (by omega)] | rw [if_neg (by omega)])); exact ⟨rfl, rfl⟩)
def p_emergency (S : zS) (n : Int) : Int × zS := if ¬ (0 ≤ n ∧ n < 200) then (0, z_sS S 5 1) else if S.2.1 42 n = -1 then (0, z_sS S 5 2) else (S.1 6 + 30, z_sA (z_sS S 5 0) 46 n (S.1 6))
theorem t_emergency {S : zS} {n : Int} (hnow : 0 ≤ S.1 6 ∧ S.1 6 ≤ 9999) : z_Ret mX7_emergency [zR 7, zI n] S (p_emergency S n) := by
  refine z_enter (by decide +kernel) rfl (z_n1 trivial (z_n1 trivial z_n0)) (Nat.le_of_ble_eq_true rfl) ?_
  refine g_aload_n (i := 0) (q := 1) dX7_emergency_0 rfl rfl rfl ?_
  refine g_iload_n (i := 1) (q := 2) dX7_emergency_1 rfl rfl rfl ?_
  by_cases c2 : 0 ≤ n ∧ n < 200
  · refine g_fnS (as := [zI n]) (q := 5) (u' := 0) dX7_emergency_2 rfl ck_X7_108 rfl rfl (Nat.le_of_ble_eq_true rfl) (by decide) rfl (by decide) (t_isNumber_t c2) rfl ?_
    refine g_if_ne (t := 12) (q := 8) dX7_emergency_5 (by decide) rfl (fun h5 => ?_) (fun h5 => (False.elim (by omega)))
    refine g_aload_n (i := 0) (q := 13) dX7_emergency_12 rfl rfl rfl ?_
    refine g_getr (q := 16) dX7_emergency_13 rfl fk_X7_17 rfl rfl ?_
    refine g_iload_n (i := 1) (q := 17) dX7_emergency_16 rfl rfl rfl ?_
    refine g_ildv (q := 18) (z := S.2.1 42 n) dX7_emergency_17 rfl ⟨by decide, rfl, rfl⟩ (by omega) (by omega) rfl ?_
    refine g_iconst (q := 19) dX7_emergency_18 rfl ⟨by decide, by decide⟩ ?_
    refine g_icmp_ne (t := 26) (q := 22) dX7_emergency_19 (by decide) rfl (fun h19 => ?_) (fun h19 => ?_)
    · refine g_iconst (q := 27) dX7_emergency_26 rfl ⟨by decide, by decide⟩ ?_
      refine g_put (q := 30) dX7_emergency_27 rfl fk_X7_80 fp_7_0 rfl rfl ?_
      refine g_aload_n (i := 0) (q := 31) dX7_emergency_30 rfl rfl rfl ?_
      refine g_getv (q := 34) (z := 0) dX7_emergency_31 rfl fk_X7_80 rfl rfl rfl ?_
      refine g_if_le (t := 39) (q := 37) dX7_emergency_34 (by decide) rfl (fun h34 => ?_) (fun h34 => (False.elim (by omega)))
      refine g_aload_n (i := 0) (q := 40) dX7_emergency_39 rfl rfl rfl ?_
      refine g_getr (q := 43) dX7_emergency_40 rfl fk_X7_29 rfl rfl ?_
      refine g_iload_n (i := 1) (q := 44) dX7_emergency_43 rfl rfl rfl ?_
      refine g_aload_n (i := 0) (q := 45) dX7_emergency_44 rfl rfl rfl ?_
      refine g_getv (q := 48) (z := S.1 6) dX7_emergency_45 rfl fk_X7_91 rfl rfl rfl ?_
      refine g_iast (q := 49) dX7_emergency_48 rfl ⟨by decide, rfl, rfl⟩ (by omega) (by omega) ?_
      refine g_aload_n (i := 0) (q := 50) dX7_emergency_49 rfl rfl rfl ?_
      refine g_getv (q := 53) (z := S.1 6) dX7_emergency_50 rfl fk_X7_91 rfl rfl rfl ?_
      refine g_bipush (q := 55) dX7_emergency_53 rfl ⟨by decide, by decide⟩ (by decide) ?_
      refine g_iadd (q := 56) dX7_emergency_55 rfl (by constructor <;> omega) ?_
      exact g_ret dX7_emergency_56 rfl (by decide) (by unfold p_emergency; (repeat (first | rw [if_pos (by omega)] | rw [if_neg (by omega)])); exact ⟨rfl, rfl⟩)
    · refine g_iconst (q := 23) dX7_emergency_22 rfl ⟨by decide, by decide⟩ ?_
      refine g_goto (q := 0) (t := 27) dX7_emergency_23 (by decide) ?_
      refine g_put (q := 30) dX7_emergency_27 rfl fk_X7_80 fp_7_0 rfl rfl ?_
      refine g_aload_n (i := 0) (q := 31) dX7_emergency_30 rfl rfl rfl ?_
      refine g_getv (q := 34) (z := 2) dX7_emergency_31 rfl fk_X7_80 rfl rfl rfl ?_
      refine g_if_le (t := 39) (q := 37) dX7_emergency_34 (by decide) rfl (fun h34 => (False.elim (by omega))) (fun h34 => ?_)
      refine g_iconst (q := 38) dX7_emergency_37 rfl ⟨by decide, by decide⟩ ?_
      exact g_ret dX7_emergency_38 rfl (by decide) (by unfold p_emergency; (repeat (first | rw [if_pos (by omega)] | rw [if_neg (by omega)])); exact ⟨rfl, rfl⟩)
  · refine g_fnS (as := [zI n]) (q := 5) (u' := 0) dX7_emergency_2 rfl ck_X7_108 rfl rfl (Nat.le_of_ble_eq_true rfl) (by decide) rfl (by decide) (t_isNumber_f c2) rfl ?_
    refine g_if_ne (t := 12) (q := 8) dX7_emergency_5 (by decide) rfl (fun h5 => (False.elim (by omega))) (fun h5 => ?_)
    refine g_iconst (q := 9) dX7_emergency_8 rfl ⟨by decide, by decide⟩ ?_
    refine g_goto (q := 0) (t := 27) dX7_emergency_9 (by decide) ?_
    refine g_put (q := 30) dX7_emergency_27 rfl fk_X7_80 fp_7_0 rfl rfl ?_
    refine g_aload_n (i := 0) (q := 31) dX7_emergency_30 rfl rfl rfl ?_
    refine g_getv (q := 34) (z := 1) dX7_emergency_31 rfl fk_X7_80 rfl rfl rfl ?_
    refine g_if_le (t := 39) (q := 37) dX7_emergency_34 (by decide) rfl (fun h34 => (False.elim (by omega))) (fun h34 => ?_)
    refine g_iconst (q := 38) dX7_emergency_37 rfl ⟨by decide, by decide⟩ ?_
    exact g_ret dX7_emergency_38 rfl (by decide) (by unfold p_emergency; (repeat (first | rw [if_pos (by omega)] | rw [if_neg (by omega)])); exact ⟨rfl, rfl⟩)
def y_oa (S : zS) (f n d m r : Int) : zS := z_sS (z_sA (z_sA (z_sA (z_sA (z_sA (z_sA (z_sA S 49 (S.1 7) r) 48 (S.1 7) (if r = 0 then 1 else 0)) 50 (S.1 7) n) 51 (S.1 7) f) 52 (S.1 7) d) 53 (S.1 7) m) 54 (S.1 7) (-1)) 7 (S.1 7 + 1)
def p_order (S : zS) (c : Nat) (f n t m : Int) : Int × zS := if ¬ ((0 ≤ f ∧ f < 6) ∧ (0 ≤ n ∧ n < 200)) then (0, z_sS S 5 1) else if ¬ (0 ≤ t ∧ t < 100) ∨ m ≤ S.1 6 ∨ S.1 6 + 500 < m then (0, z_sS S 5 2) else if ¬ S.2.1 41 f = 0 ∨ S.1 7 = 60 then (0, z_sS S 5 3) else (S.1 7, y_oa (z_sS S 5 0) f n (S.2.1 42 n) m (y_rr (z_sS S 5 0) c f n t m))
theorem t_order {S : zS} {f n t m : Int} {c : Nat} (hc : S.1 7 = c) (h60 : c ≤ 60) (hM : yM S) (hG : ∀ f : Int, 0 ≤ f → f < 6 → S.2.1 41 f = 0 ∨ S.2.1 41 f = 1) : z_Ret mX7_order [zR 7, zI f, zI n, zI t, zI m] S (p_order S c f n t m) := by
  have hnow := hM.1
  refine z_enter (by decide +kernel) rfl (z_n1 trivial (z_n1 trivial (z_n1 trivial (z_n1 trivial (z_n1 trivial z_n0))))) (Nat.le_of_ble_eq_true rfl) ?_
  by_cases e : y_rr (z_sS S 5 0) c f n t m = 0
  · skip
    refine g_iload_n (i := 1) (q := 1) dX7_order_0 rfl rfl rfl ?_
    by_cases c1 : 0 ≤ f ∧ f < 6
    · refine g_fnS (as := [zI f]) (q := 4) (u' := 0) dX7_order_1 rfl ck_X7_98 rfl rfl (Nat.le_of_ble_eq_true rfl) (by decide) rfl (by decide) (t_isFirm_t c1) rfl ?_
      refine g_if_eq (t := 18) (q := 7) dX7_order_4 (by decide) rfl (fun h4 => (False.elim (by omega))) (fun h4 => ?_)
      refine g_iload_n (i := 2) (q := 8) dX7_order_7 rfl rfl rfl ?_
      by_cases c8 : 0 ≤ n ∧ n < 200
      · refine g_fnS (as := [zI n]) (q := 11) (u' := 0) dX7_order_8 rfl ck_X7_108 rfl rfl (Nat.le_of_ble_eq_true rfl) (by decide) rfl (by decide) (t_isNumber_t c8) rfl ?_
        refine g_if_eq (t := 18) (q := 14) dX7_order_11 (by decide) rfl (fun h11 => (False.elim (by omega))) (fun h11 => ?_)
        refine g_iconst (q := 15) dX7_order_14 rfl ⟨by decide, by decide⟩ ?_
        refine g_goto (q := 0) (t := 19) dX7_order_15 (by decide) ?_
        refine g_istore (q := 21) dX7_order_19 rfl (by decide) ?_
        refine g_aload_n (i := 0) (q := 22) dX7_order_21 rfl rfl rfl ?_
        refine g_iload (q := 24) dX7_order_22 rfl rfl ?_
        refine g_if_ne (t := 31) (q := 27) dX7_order_24 (by decide) rfl (fun h24 => ?_) (fun h24 => (False.elim (by omega)))
        refine g_iload_n (i := 3) (q := 32) dX7_order_31 rfl rfl rfl ?_
        by_cases c32 : 0 ≤ t ∧ t < 100
        · refine g_fnS (as := [zI t]) (q := 35) (u' := 0) dX7_order_32 rfl ck_X7_111 rfl rfl (Nat.le_of_ble_eq_true rfl) (by decide) rfl (by decide) (t_isSecret_t c32) rfl ?_
          refine g_if_eq (t := 60) (q := 38) dX7_order_35 (by decide) rfl (fun h35 => (False.elim (by omega))) (fun h35 => ?_)
          refine g_iload (q := 40) dX7_order_38 rfl rfl ?_
          refine g_aload_n (i := 0) (q := 41) dX7_order_40 rfl rfl rfl ?_
          refine g_getv (q := 44) (z := S.1 6) dX7_order_41 rfl fk_X7_91 rfl rfl rfl ?_
          refine g_iconst (q := 45) dX7_order_44 rfl ⟨by decide, by decide⟩ ?_
          refine g_iadd (q := 46) dX7_order_45 rfl (by constructor <;> omega) ?_
          refine g_aload_n (i := 0) (q := 47) dX7_order_46 rfl rfl rfl ?_
          refine g_getv (q := 50) (z := S.1 6) dX7_order_47 rfl fk_X7_91 rfl rfl rfl ?_
          refine g_sipush (q := 53) dX7_order_50 rfl ⟨by decide, by decide⟩ (by decide) ?_
          refine g_iadd (q := 54) dX7_order_53 rfl (by constructor <;> omega) ?_
          by_cases c54 : (S.1 6) + 1 ≤ m ∧ m ≤ (S.1 6) + 500
          · refine g_fnS (as := [zI m, zI ((S.1 6) + 1), zI ((S.1 6) + 500)]) (q := 57) (u' := 0) dX7_order_54 rfl ck_X7_84 rfl rfl (Nat.le_of_ble_eq_true rfl) (by decide) rfl (by decide) (t_in_t c54) rfl ?_
            refine g_if_ne (t := 64) (q := 60) dX7_order_57 (by decide) rfl (fun h57 => ?_) (fun h57 => (False.elim (by omega)))
            refine g_aload_n (i := 0) (q := 65) dX7_order_64 rfl rfl rfl ?_
            refine g_getr (q := 68) dX7_order_65 rfl fk_X7_13 rfl rfl ?_
            refine g_iload_n (i := 1) (q := 69) dX7_order_68 rfl rfl rfl ?_
            refine g_zldv (q := 70) (z := S.2.1 41 f) dX7_order_69 rfl ⟨by decide, rfl, rfl⟩ (by omega) (by omega) rfl ?_
            refine g_if_ne (t := 82) (q := 73) dX7_order_70 (by decide) rfl (fun h70 => ?_) (fun h70 => ?_)
            · refine g_iconst (q := 83) dX7_order_82 rfl ⟨by decide, by decide⟩ ?_
              refine g_goto (q := 0) (t := 87) dX7_order_83 (by decide) ?_
              refine g_put (q := 90) dX7_order_87 rfl fk_X7_80 fp_7_0 rfl rfl ?_
              refine g_aload_n (i := 0) (q := 91) dX7_order_90 rfl rfl rfl ?_
              refine g_getv (q := 94) (z := 3) dX7_order_91 rfl fk_X7_80 rfl rfl rfl ?_
              refine g_if_le (t := 99) (q := 97) dX7_order_94 (by decide) rfl (fun h94 => (False.elim (by omega))) (fun h94 => ?_)
              refine g_iconst (q := 98) dX7_order_97 rfl ⟨by decide, by decide⟩ ?_
              exact g_ret dX7_order_98 rfl (by decide) (by unfold p_order; (repeat (first | rw [if_pos (by omega)] | rw [if_neg (by omega)])); exact ⟨rfl, rfl⟩)
            · refine g_aload_n (i := 0) (q := 74) dX7_order_73 rfl rfl rfl ?_
              refine g_getv (q := 77) (z := S.1 7) dX7_order_74 rfl fk_X7_88 rfl rfl rfl ?_
              refine g_bipush (q := 79) dX7_order_77 rfl ⟨by decide, by decide⟩ (by decide) ?_
              refine g_icmp_ne (t := 86) (q := 82) dX7_order_79 (by decide) rfl (fun h79 => ?_) (fun h79 => ?_)
              · refine g_iconst (q := 87) dX7_order_86 rfl ⟨by decide, by decide⟩ ?_
                refine g_put (q := 90) dX7_order_87 rfl fk_X7_80 fp_7_0 rfl rfl ?_
                refine g_aload_n (i := 0) (q := 91) dX7_order_90 rfl rfl rfl ?_
                refine g_getv (q := 94) (z := 0) dX7_order_91 rfl fk_X7_80 rfl rfl rfl ?_
                refine g_if_le (t := 99) (q := 97) dX7_order_94 (by decide) rfl (fun h94 => ?_) (fun h94 => (False.elim (by omega)))
                refine g_aload_n (i := 0) (q := 100) dX7_order_99 rfl rfl rfl ?_
                refine g_iload_n (i := 1) (q := 101) dX7_order_100 rfl rfl rfl ?_
                refine g_iload_n (i := 2) (q := 102) dX7_order_101 rfl rfl rfl ?_
                refine g_iload_n (i := 3) (q := 103) dX7_order_102 rfl rfl rfl ?_
                refine g_iload (q := 105) dX7_order_103 rfl rfl ?_
                refine g_fnV (as := [zI f, zI n, zI t, zI m]) (q := 108) (u' := 0) dX7_order_105 rfl ck_X7_135 rfl rfl rfl (Nat.le_of_ble_eq_true rfl) (by decide) rfl (by decide) (t_reason (S := z_sS S 5 0) hc h60 hM (by omega) (by omega)) rfl ?_
                refine g_istore (q := 110) dX7_order_108 rfl (by decide) ?_
                refine g_aload_n (i := 0) (q := 111) dX7_order_110 rfl rfl rfl ?_
                refine g_getr (q := 114) dX7_order_111 rfl fk_X7_38 rfl rfl ?_
                refine g_aload_n (i := 0) (q := 115) dX7_order_114 rfl rfl rfl ?_
                refine g_getv (q := 118) (z := S.1 7) dX7_order_115 rfl fk_X7_88 rfl rfl rfl ?_
                refine g_iload (q := 120) dX7_order_118 rfl rfl ?_
                refine g_iast (q := 121) dX7_order_120 rfl ⟨by decide, rfl, rfl⟩ (by omega) (by omega) ?_
                refine g_aload_n (i := 0) (q := 122) dX7_order_121 rfl rfl rfl ?_
                refine g_getr (q := 125) dX7_order_122 rfl fk_X7_35 rfl rfl ?_
                refine g_aload_n (i := 0) (q := 126) dX7_order_125 rfl rfl rfl ?_
                refine g_getv (q := 129) (z := S.1 7) dX7_order_126 rfl fk_X7_88 rfl rfl rfl ?_
                refine g_iload (q := 131) dX7_order_129 rfl rfl ?_
                refine g_if_ne (t := 138) (q := 134) dX7_order_131 (by decide) rfl (fun h131 => (False.elim (by omega))) (fun h131 => ?_)
                refine g_iconst (q := 135) dX7_order_134 rfl ⟨by decide, by decide⟩ ?_
                refine g_goto (q := 0) (t := 139) dX7_order_135 (by decide) ?_
                refine g_iast (q := 140) dX7_order_139 rfl ⟨by decide, rfl, rfl⟩ (by omega) (by omega) ?_
                refine g_aload_n (i := 0) (q := 141) dX7_order_140 rfl rfl rfl ?_
                refine g_getr (q := 144) dX7_order_141 rfl fk_X7_41 rfl rfl ?_
                refine g_aload_n (i := 0) (q := 145) dX7_order_144 rfl rfl rfl ?_
                refine g_getv (q := 148) (z := S.1 7) dX7_order_145 rfl fk_X7_88 rfl rfl rfl ?_
                refine g_iload_n (i := 2) (q := 149) dX7_order_148 rfl rfl rfl ?_
                refine g_iast (q := 150) dX7_order_149 rfl ⟨by decide, rfl, rfl⟩ (by omega) (by omega) ?_
                refine g_aload_n (i := 0) (q := 151) dX7_order_150 rfl rfl rfl ?_
                refine g_getr (q := 154) dX7_order_151 rfl fk_X7_44 rfl rfl ?_
                refine g_aload_n (i := 0) (q := 155) dX7_order_154 rfl rfl rfl ?_
                refine g_getv (q := 158) (z := S.1 7) dX7_order_155 rfl fk_X7_88 rfl rfl rfl ?_
                refine g_iload_n (i := 1) (q := 159) dX7_order_158 rfl rfl rfl ?_
                refine g_iast (q := 160) dX7_order_159 rfl ⟨by decide, rfl, rfl⟩ (by omega) (by omega) ?_
                refine g_aload_n (i := 0) (q := 161) dX7_order_160 rfl rfl rfl ?_
                refine g_getr (q := 164) dX7_order_161 rfl fk_X7_47 rfl rfl ?_
                refine g_aload_n (i := 0) (q := 165) dX7_order_164 rfl rfl rfl ?_
                refine g_getv (q := 168) (z := S.1 7) dX7_order_165 rfl fk_X7_88 rfl rfl rfl ?_
                refine g_aload_n (i := 0) (q := 169) dX7_order_168 rfl rfl rfl ?_
                refine g_getr (q := 172) dX7_order_169 rfl fk_X7_17 rfl rfl ?_
                refine g_iload_n (i := 2) (q := 173) dX7_order_172 rfl rfl rfl ?_
                refine g_ildv (q := 174) (z := S.2.1 42 n) dX7_order_173 rfl ⟨by decide, rfl, rfl⟩ (by omega) (by omega) rfl ?_
                refine g_iast (q := 175) dX7_order_174 rfl ⟨by decide, rfl, rfl⟩ (by omega) (by omega) ?_
                refine g_aload_n (i := 0) (q := 176) dX7_order_175 rfl rfl rfl ?_
                refine g_getr (q := 179) dX7_order_176 rfl fk_X7_50 rfl rfl ?_
                refine g_aload_n (i := 0) (q := 180) dX7_order_179 rfl rfl rfl ?_
                refine g_getv (q := 183) (z := S.1 7) dX7_order_180 rfl fk_X7_88 rfl rfl rfl ?_
                refine g_iload (q := 185) dX7_order_183 rfl rfl ?_
                refine g_iast (q := 186) dX7_order_185 rfl ⟨by decide, rfl, rfl⟩ (by omega) (by omega) ?_
                refine g_aload_n (i := 0) (q := 187) dX7_order_186 rfl rfl rfl ?_
                refine g_getr (q := 190) dX7_order_187 rfl fk_X7_53 rfl rfl ?_
                refine g_aload_n (i := 0) (q := 191) dX7_order_190 rfl rfl rfl ?_
                refine g_getv (q := 194) (z := S.1 7) dX7_order_191 rfl fk_X7_88 rfl rfl rfl ?_
                refine g_iconst (q := 195) dX7_order_194 rfl ⟨by decide, by decide⟩ ?_
                refine g_iast (q := 196) dX7_order_195 rfl ⟨by decide, rfl, rfl⟩ (by omega) (by omega) ?_
                refine g_aload_n (i := 0) (q := 197) dX7_order_196 rfl rfl rfl ?_
                refine g_dup (q := 198) dX7_order_197 rfl trivial ?_
                refine g_getv (q := 201) (z := S.1 7) dX7_order_198 rfl fk_X7_88 rfl rfl rfl ?_
                refine g_iconst (q := 202) dX7_order_201 rfl ⟨by decide, by decide⟩ ?_
                refine g_iadd (q := 203) dX7_order_202 rfl (by constructor <;> omega) ?_
                refine g_put (q := 206) dX7_order_203 rfl fk_X7_88 fp_7_10 rfl rfl ?_
                refine g_aload_n (i := 0) (q := 207) dX7_order_206 rfl rfl rfl ?_
                refine g_getv (q := 210) (z := (S.1 7) + 1) dX7_order_207 rfl fk_X7_88 rfl rfl rfl ?_
                refine g_iconst (q := 211) dX7_order_210 rfl ⟨by decide, by decide⟩ ?_
                refine g_isub (q := 212) dX7_order_211 rfl (by constructor <;> omega) ?_
                refine g_top (z := S.1 7) (show S.1 7 + 1 - 1 = S.1 7 by omega) ?_
                exact g_ret dX7_order_212 rfl (by decide) (by unfold p_order y_oa; (repeat (first | rw [if_pos (by omega)] | rw [if_neg (by omega)])); exact ⟨rfl, rfl⟩)
              · refine g_iconst (q := 83) dX7_order_82 rfl ⟨by decide, by decide⟩ ?_
                refine g_goto (q := 0) (t := 87) dX7_order_83 (by decide) ?_
                refine g_put (q := 90) dX7_order_87 rfl fk_X7_80 fp_7_0 rfl rfl ?_
                refine g_aload_n (i := 0) (q := 91) dX7_order_90 rfl rfl rfl ?_
                refine g_getv (q := 94) (z := 3) dX7_order_91 rfl fk_X7_80 rfl rfl rfl ?_
                refine g_if_le (t := 99) (q := 97) dX7_order_94 (by decide) rfl (fun h94 => (False.elim (by omega))) (fun h94 => ?_)
                refine g_iconst (q := 98) dX7_order_97 rfl ⟨by decide, by decide⟩ ?_
                exact g_ret dX7_order_98 rfl (by decide) (by unfold p_order; (repeat (first | rw [if_pos (by omega)] | rw [if_neg (by omega)])); exact ⟨rfl, rfl⟩)
          · refine g_fnS (as := [zI m, zI ((S.1 6) + 1), zI ((S.1 6) + 500)]) (q := 57) (u' := 0) dX7_order_54 rfl ck_X7_84 rfl rfl (Nat.le_of_ble_eq_true rfl) (by decide) rfl (by decide) (t_in_f c54) rfl ?_
            refine g_if_ne (t := 64) (q := 60) dX7_order_57 (by decide) rfl (fun h57 => (False.elim (by omega))) (fun h57 => ?_)
            refine g_iconst (q := 61) dX7_order_60 rfl ⟨by decide, by decide⟩ ?_
            refine g_goto (q := 0) (t := 87) dX7_order_61 (by decide) ?_
            refine g_put (q := 90) dX7_order_87 rfl fk_X7_80 fp_7_0 rfl rfl ?_
            refine g_aload_n (i := 0) (q := 91) dX7_order_90 rfl rfl rfl ?_
            refine g_getv (q := 94) (z := 2) dX7_order_91 rfl fk_X7_80 rfl rfl rfl ?_
            refine g_if_le (t := 99) (q := 97) dX7_order_94 (by decide) rfl (fun h94 => (False.elim (by omega))) (fun h94 => ?_)
            refine g_iconst (q := 98) dX7_order_97 rfl ⟨by decide, by decide⟩ ?_
            exact g_ret dX7_order_98 rfl (by decide) (by unfold p_order; (repeat (first | rw [if_pos (by omega)] | rw [if_neg (by omega)])); exact ⟨rfl, rfl⟩)
        · refine g_fnS (as := [zI t]) (q := 35) (u' := 0) dX7_order_32 rfl ck_X7_111 rfl rfl (Nat.le_of_ble_eq_true rfl) (by decide) rfl (by decide) (t_isSecret_f c32) rfl ?_
          refine g_if_eq (t := 60) (q := 38) dX7_order_35 (by decide) rfl (fun h35 => ?_) (fun h35 => (False.elim (by omega)))
          refine g_iconst (q := 61) dX7_order_60 rfl ⟨by decide, by decide⟩ ?_
          refine g_goto (q := 0) (t := 87) dX7_order_61 (by decide) ?_
          refine g_put (q := 90) dX7_order_87 rfl fk_X7_80 fp_7_0 rfl rfl ?_
          refine g_aload_n (i := 0) (q := 91) dX7_order_90 rfl rfl rfl ?_
          refine g_getv (q := 94) (z := 2) dX7_order_91 rfl fk_X7_80 rfl rfl rfl ?_
          refine g_if_le (t := 99) (q := 97) dX7_order_94 (by decide) rfl (fun h94 => (False.elim (by omega))) (fun h94 => ?_)
          refine g_iconst (q := 98) dX7_order_97 rfl ⟨by decide, by decide⟩ ?_
          exact g_ret dX7_order_98 rfl (by decide) (by unfold p_order; (repeat (first | rw [if_pos (by omega)] | rw [if_neg (by omega)])); exact ⟨rfl, rfl⟩)
      · refine g_fnS (as := [zI n]) (q := 11) (u' := 0) dX7_order_8 rfl ck_X7_108 rfl rfl (Nat.le_of_ble_eq_true rfl) (by decide) rfl (by decide) (t_isNumber_f c8) rfl ?_
        refine g_if_eq (t := 18) (q := 14) dX7_order_11 (by decide) rfl (fun h11 => ?_) (fun h11 => (False.elim (by omega)))
        refine g_iconst (q := 19) dX7_order_18 rfl ⟨by decide, by decide⟩ ?_
        refine g_istore (q := 21) dX7_order_19 rfl (by decide) ?_
        refine g_aload_n (i := 0) (q := 22) dX7_order_21 rfl rfl rfl ?_
        refine g_iload (q := 24) dX7_order_22 rfl rfl ?_
        refine g_if_ne (t := 31) (q := 27) dX7_order_24 (by decide) rfl (fun h24 => (False.elim (by omega))) (fun h24 => ?_)
        refine g_iconst (q := 28) dX7_order_27 rfl ⟨by decide, by decide⟩ ?_
        refine g_goto (q := 0) (t := 87) dX7_order_28 (by decide) ?_
        refine g_put (q := 90) dX7_order_87 rfl fk_X7_80 fp_7_0 rfl rfl ?_
        refine g_aload_n (i := 0) (q := 91) dX7_order_90 rfl rfl rfl ?_
        refine g_getv (q := 94) (z := 1) dX7_order_91 rfl fk_X7_80 rfl rfl rfl ?_
        refine g_if_le (t := 99) (q := 97) dX7_order_94 (by decide) rfl (fun h94 => (False.elim (by omega))) (fun h94 => ?_)
        refine g_iconst (q := 98) dX7_order_97 rfl ⟨by decide, by decide⟩ ?_
        exact g_ret dX7_order_98 rfl (by decide) (by unfold p_order; (repeat (first | rw [if_pos (by omega)] | rw [if_neg (by omega)])); exact ⟨rfl, rfl⟩)
    · refine g_fnS (as := [zI f]) (q := 4) (u' := 0) dX7_order_1 rfl ck_X7_98 rfl rfl (Nat.le_of_ble_eq_true rfl) (by decide) rfl (by decide) (t_isFirm_f c1) rfl ?_
      refine g_if_eq (t := 18) (q := 7) dX7_order_4 (by decide) rfl (fun h4 => ?_) (fun h4 => (False.elim (by omega)))
      refine g_iconst (q := 19) dX7_order_18 rfl ⟨by decide, by decide⟩ ?_
      refine g_istore (q := 21) dX7_order_19 rfl (by decide) ?_
      refine g_aload_n (i := 0) (q := 22) dX7_order_21 rfl rfl rfl ?_
      refine g_iload (q := 24) dX7_order_22 rfl rfl ?_
      refine g_if_ne (t := 31) (q := 27) dX7_order_24 (by decide) rfl (fun h24 => (False.elim (by omega))) (fun h24 => ?_)
      refine g_iconst (q := 28) dX7_order_27 rfl ⟨by decide, by decide⟩ ?_
      refine g_goto (q := 0) (t := 87) dX7_order_28 (by decide) ?_
      refine g_put (q := 90) dX7_order_87 rfl fk_X7_80 fp_7_0 rfl rfl ?_
      refine g_aload_n (i := 0) (q := 91) dX7_order_90 rfl rfl rfl ?_
      refine g_getv (q := 94) (z := 1) dX7_order_91 rfl fk_X7_80 rfl rfl rfl ?_
      refine g_if_le (t := 99) (q := 97) dX7_order_94 (by decide) rfl (fun h94 => (False.elim (by omega))) (fun h94 => ?_)
      refine g_iconst (q := 98) dX7_order_97 rfl ⟨by decide, by decide⟩ ?_
      exact g_ret dX7_order_98 rfl (by decide) (by unfold p_order; (repeat (first | rw [if_pos (by omega)] | rw [if_neg (by omega)])); exact ⟨rfl, rfl⟩)
  · skip
    refine g_iload_n (i := 1) (q := 1) dX7_order_0 rfl rfl rfl ?_
    by_cases c1 : 0 ≤ f ∧ f < 6
    · refine g_fnS (as := [zI f]) (q := 4) (u' := 0) dX7_order_1 rfl ck_X7_98 rfl rfl (Nat.le_of_ble_eq_true rfl) (by decide) rfl (by decide) (t_isFirm_t c1) rfl ?_
      refine g_if_eq (t := 18) (q := 7) dX7_order_4 (by decide) rfl (fun h4 => (False.elim (by omega))) (fun h4 => ?_)
      refine g_iload_n (i := 2) (q := 8) dX7_order_7 rfl rfl rfl ?_
      by_cases c8 : 0 ≤ n ∧ n < 200
      · refine g_fnS (as := [zI n]) (q := 11) (u' := 0) dX7_order_8 rfl ck_X7_108 rfl rfl (Nat.le_of_ble_eq_true rfl) (by decide) rfl (by decide) (t_isNumber_t c8) rfl ?_
        refine g_if_eq (t := 18) (q := 14) dX7_order_11 (by decide) rfl (fun h11 => (False.elim (by omega))) (fun h11 => ?_)
        refine g_iconst (q := 15) dX7_order_14 rfl ⟨by decide, by decide⟩ ?_
        refine g_goto (q := 0) (t := 19) dX7_order_15 (by decide) ?_
        refine g_istore (q := 21) dX7_order_19 rfl (by decide) ?_
        refine g_aload_n (i := 0) (q := 22) dX7_order_21 rfl rfl rfl ?_
        refine g_iload (q := 24) dX7_order_22 rfl rfl ?_
        refine g_if_ne (t := 31) (q := 27) dX7_order_24 (by decide) rfl (fun h24 => ?_) (fun h24 => (False.elim (by omega)))
        refine g_iload_n (i := 3) (q := 32) dX7_order_31 rfl rfl rfl ?_
        by_cases c32 : 0 ≤ t ∧ t < 100
        · refine g_fnS (as := [zI t]) (q := 35) (u' := 0) dX7_order_32 rfl ck_X7_111 rfl rfl (Nat.le_of_ble_eq_true rfl) (by decide) rfl (by decide) (t_isSecret_t c32) rfl ?_
          refine g_if_eq (t := 60) (q := 38) dX7_order_35 (by decide) rfl (fun h35 => (False.elim (by omega))) (fun h35 => ?_)
          refine g_iload (q := 40) dX7_order_38 rfl rfl ?_
          refine g_aload_n (i := 0) (q := 41) dX7_order_40 rfl rfl rfl ?_
          refine g_getv (q := 44) (z := S.1 6) dX7_order_41 rfl fk_X7_91 rfl rfl rfl ?_
          refine g_iconst (q := 45) dX7_order_44 rfl ⟨by decide, by decide⟩ ?_
          refine g_iadd (q := 46) dX7_order_45 rfl (by constructor <;> omega) ?_
          refine g_aload_n (i := 0) (q := 47) dX7_order_46 rfl rfl rfl ?_
          refine g_getv (q := 50) (z := S.1 6) dX7_order_47 rfl fk_X7_91 rfl rfl rfl ?_
          refine g_sipush (q := 53) dX7_order_50 rfl ⟨by decide, by decide⟩ (by decide) ?_
          refine g_iadd (q := 54) dX7_order_53 rfl (by constructor <;> omega) ?_
          by_cases c54 : (S.1 6) + 1 ≤ m ∧ m ≤ (S.1 6) + 500
          · refine g_fnS (as := [zI m, zI ((S.1 6) + 1), zI ((S.1 6) + 500)]) (q := 57) (u' := 0) dX7_order_54 rfl ck_X7_84 rfl rfl (Nat.le_of_ble_eq_true rfl) (by decide) rfl (by decide) (t_in_t c54) rfl ?_
            refine g_if_ne (t := 64) (q := 60) dX7_order_57 (by decide) rfl (fun h57 => ?_) (fun h57 => (False.elim (by omega)))
            refine g_aload_n (i := 0) (q := 65) dX7_order_64 rfl rfl rfl ?_
            refine g_getr (q := 68) dX7_order_65 rfl fk_X7_13 rfl rfl ?_
            refine g_iload_n (i := 1) (q := 69) dX7_order_68 rfl rfl rfl ?_
            refine g_zldv (q := 70) (z := S.2.1 41 f) dX7_order_69 rfl ⟨by decide, rfl, rfl⟩ (by omega) (by omega) rfl ?_
            refine g_if_ne (t := 82) (q := 73) dX7_order_70 (by decide) rfl (fun h70 => ?_) (fun h70 => ?_)
            · refine g_iconst (q := 83) dX7_order_82 rfl ⟨by decide, by decide⟩ ?_
              refine g_goto (q := 0) (t := 87) dX7_order_83 (by decide) ?_
              refine g_put (q := 90) dX7_order_87 rfl fk_X7_80 fp_7_0 rfl rfl ?_
              refine g_aload_n (i := 0) (q := 91) dX7_order_90 rfl rfl rfl ?_
              refine g_getv (q := 94) (z := 3) dX7_order_91 rfl fk_X7_80 rfl rfl rfl ?_
              refine g_if_le (t := 99) (q := 97) dX7_order_94 (by decide) rfl (fun h94 => (False.elim (by omega))) (fun h94 => ?_)
              refine g_iconst (q := 98) dX7_order_97 rfl ⟨by decide, by decide⟩ ?_
              exact g_ret dX7_order_98 rfl (by decide) (by unfold p_order; (repeat (first | rw [if_pos (by omega)] | rw [if_neg (by omega)])); exact ⟨rfl, rfl⟩)
            · refine g_aload_n (i := 0) (q := 74) dX7_order_73 rfl rfl rfl ?_
              refine g_getv (q := 77) (z := S.1 7) dX7_order_74 rfl fk_X7_88 rfl rfl rfl ?_
              refine g_bipush (q := 79) dX7_order_77 rfl ⟨by decide, by decide⟩ (by decide) ?_
              refine g_icmp_ne (t := 86) (q := 82) dX7_order_79 (by decide) rfl (fun h79 => ?_) (fun h79 => ?_)
              · refine g_iconst (q := 87) dX7_order_86 rfl ⟨by decide, by decide⟩ ?_
                refine g_put (q := 90) dX7_order_87 rfl fk_X7_80 fp_7_0 rfl rfl ?_
                refine g_aload_n (i := 0) (q := 91) dX7_order_90 rfl rfl rfl ?_
                refine g_getv (q := 94) (z := 0) dX7_order_91 rfl fk_X7_80 rfl rfl rfl ?_
                refine g_if_le (t := 99) (q := 97) dX7_order_94 (by decide) rfl (fun h94 => ?_) (fun h94 => (False.elim (by omega)))
                refine g_aload_n (i := 0) (q := 100) dX7_order_99 rfl rfl rfl ?_
                refine g_iload_n (i := 1) (q := 101) dX7_order_100 rfl rfl rfl ?_
                refine g_iload_n (i := 2) (q := 102) dX7_order_101 rfl rfl rfl ?_
                refine g_iload_n (i := 3) (q := 103) dX7_order_102 rfl rfl rfl ?_
                refine g_iload (q := 105) dX7_order_103 rfl rfl ?_
                refine g_fnV (as := [zI f, zI n, zI t, zI m]) (q := 108) (u' := 0) dX7_order_105 rfl ck_X7_135 rfl rfl rfl (Nat.le_of_ble_eq_true rfl) (by decide) rfl (by decide) (t_reason (S := z_sS S 5 0) hc h60 hM (by omega) (by omega)) rfl ?_
                refine g_istore (q := 110) dX7_order_108 rfl (by decide) ?_
                refine g_aload_n (i := 0) (q := 111) dX7_order_110 rfl rfl rfl ?_
                refine g_getr (q := 114) dX7_order_111 rfl fk_X7_38 rfl rfl ?_
                refine g_aload_n (i := 0) (q := 115) dX7_order_114 rfl rfl rfl ?_
                refine g_getv (q := 118) (z := S.1 7) dX7_order_115 rfl fk_X7_88 rfl rfl rfl ?_
                refine g_iload (q := 120) dX7_order_118 rfl rfl ?_
                refine g_iast (q := 121) dX7_order_120 rfl ⟨by decide, rfl, rfl⟩ (by omega) (by omega) ?_
                refine g_aload_n (i := 0) (q := 122) dX7_order_121 rfl rfl rfl ?_
                refine g_getr (q := 125) dX7_order_122 rfl fk_X7_35 rfl rfl ?_
                refine g_aload_n (i := 0) (q := 126) dX7_order_125 rfl rfl rfl ?_
                refine g_getv (q := 129) (z := S.1 7) dX7_order_126 rfl fk_X7_88 rfl rfl rfl ?_
                refine g_iload (q := 131) dX7_order_129 rfl rfl ?_
                refine g_if_ne (t := 138) (q := 134) dX7_order_131 (by decide) rfl (fun h131 => ?_) (fun h131 => (False.elim (by omega)))
                refine g_iconst (q := 139) dX7_order_138 rfl ⟨by decide, by decide⟩ ?_
                refine g_iast (q := 140) dX7_order_139 rfl ⟨by decide, rfl, rfl⟩ (by omega) (by omega) ?_
                refine g_aload_n (i := 0) (q := 141) dX7_order_140 rfl rfl rfl ?_
                refine g_getr (q := 144) dX7_order_141 rfl fk_X7_41 rfl rfl ?_
                refine g_aload_n (i := 0) (q := 145) dX7_order_144 rfl rfl rfl ?_
                refine g_getv (q := 148) (z := S.1 7) dX7_order_145 rfl fk_X7_88 rfl rfl rfl ?_
                refine g_iload_n (i := 2) (q := 149) dX7_order_148 rfl rfl rfl ?_
                refine g_iast (q := 150) dX7_order_149 rfl ⟨by decide, rfl, rfl⟩ (by omega) (by omega) ?_
                refine g_aload_n (i := 0) (q := 151) dX7_order_150 rfl rfl rfl ?_
                refine g_getr (q := 154) dX7_order_151 rfl fk_X7_44 rfl rfl ?_
                refine g_aload_n (i := 0) (q := 155) dX7_order_154 rfl rfl rfl ?_
                refine g_getv (q := 158) (z := S.1 7) dX7_order_155 rfl fk_X7_88 rfl rfl rfl ?_
                refine g_iload_n (i := 1) (q := 159) dX7_order_158 rfl rfl rfl ?_
                refine g_iast (q := 160) dX7_order_159 rfl ⟨by decide, rfl, rfl⟩ (by omega) (by omega) ?_
                refine g_aload_n (i := 0) (q := 161) dX7_order_160 rfl rfl rfl ?_
                refine g_getr (q := 164) dX7_order_161 rfl fk_X7_47 rfl rfl ?_
                refine g_aload_n (i := 0) (q := 165) dX7_order_164 rfl rfl rfl ?_
                refine g_getv (q := 168) (z := S.1 7) dX7_order_165 rfl fk_X7_88 rfl rfl rfl ?_
                refine g_aload_n (i := 0) (q := 169) dX7_order_168 rfl rfl rfl ?_
                refine g_getr (q := 172) dX7_order_169 rfl fk_X7_17 rfl rfl ?_
                refine g_iload_n (i := 2) (q := 173) dX7_order_172 rfl rfl rfl ?_
                refine g_ildv (q := 174) (z := S.2.1 42 n) dX7_order_173 rfl ⟨by decide, rfl, rfl⟩ (by omega) (by omega) rfl ?_
                refine g_iast (q := 175) dX7_order_174 rfl ⟨by decide, rfl, rfl⟩ (by omega) (by omega) ?_
                refine g_aload_n (i := 0) (q := 176) dX7_order_175 rfl rfl rfl ?_
                refine g_getr (q := 179) dX7_order_176 rfl fk_X7_50 rfl rfl ?_
                refine g_aload_n (i := 0) (q := 180) dX7_order_179 rfl rfl rfl ?_
                refine g_getv (q := 183) (z := S.1 7) dX7_order_180 rfl fk_X7_88 rfl rfl rfl ?_
                refine g_iload (q := 185) dX7_order_183 rfl rfl ?_
                refine g_iast (q := 186) dX7_order_185 rfl ⟨by decide, rfl, rfl⟩ (by omega) (by omega) ?_
                refine g_aload_n (i := 0) (q := 187) dX7_order_186 rfl rfl rfl ?_
                refine g_getr (q := 190) dX7_order_187 rfl fk_X7_53 rfl rfl ?_
                refine g_aload_n (i := 0) (q := 191) dX7_order_190 rfl rfl rfl ?_
                refine g_getv (q := 194) (z := S.1 7) dX7_order_191 rfl fk_X7_88 rfl rfl rfl ?_
                refine g_iconst (q := 195) dX7_order_194 rfl ⟨by decide, by decide⟩ ?_
                refine g_iast (q := 196) dX7_order_195 rfl ⟨by decide, rfl, rfl⟩ (by omega) (by omega) ?_
                refine g_aload_n (i := 0) (q := 197) dX7_order_196 rfl rfl rfl ?_
                refine g_dup (q := 198) dX7_order_197 rfl trivial ?_
                refine g_getv (q := 201) (z := S.1 7) dX7_order_198 rfl fk_X7_88 rfl rfl rfl ?_
                refine g_iconst (q := 202) dX7_order_201 rfl ⟨by decide, by decide⟩ ?_
                refine g_iadd (q := 203) dX7_order_202 rfl (by constructor <;> omega) ?_
                refine g_put (q := 206) dX7_order_203 rfl fk_X7_88 fp_7_10 rfl rfl ?_
                refine g_aload_n (i := 0) (q := 207) dX7_order_206 rfl rfl rfl ?_
                refine g_getv (q := 210) (z := (S.1 7) + 1) dX7_order_207 rfl fk_X7_88 rfl rfl rfl ?_
                refine g_iconst (q := 211) dX7_order_210 rfl ⟨by decide, by decide⟩ ?_
                refine g_isub (q := 212) dX7_order_211 rfl (by constructor <;> omega) ?_
                refine g_top (z := S.1 7) (show S.1 7 + 1 - 1 = S.1 7 by omega) ?_
                exact g_ret dX7_order_212 rfl (by decide) (by unfold p_order y_oa; (repeat (first | rw [if_pos (by omega)] | rw [if_neg (by omega)])); exact ⟨rfl, rfl⟩)
              · refine g_iconst (q := 83) dX7_order_82 rfl ⟨by decide, by decide⟩ ?_
                refine g_goto (q := 0) (t := 87) dX7_order_83 (by decide) ?_
                refine g_put (q := 90) dX7_order_87 rfl fk_X7_80 fp_7_0 rfl rfl ?_
                refine g_aload_n (i := 0) (q := 91) dX7_order_90 rfl rfl rfl ?_
                refine g_getv (q := 94) (z := 3) dX7_order_91 rfl fk_X7_80 rfl rfl rfl ?_
                refine g_if_le (t := 99) (q := 97) dX7_order_94 (by decide) rfl (fun h94 => (False.elim (by omega))) (fun h94 => ?_)
                refine g_iconst (q := 98) dX7_order_97 rfl ⟨by decide, by decide⟩ ?_
                exact g_ret dX7_order_98 rfl (by decide) (by unfold p_order; (repeat (first | rw [if_pos (by omega)] | rw [if_neg (by omega)])); exact ⟨rfl, rfl⟩)
          · refine g_fnS (as := [zI m, zI ((S.1 6) + 1), zI ((S.1 6) + 500)]) (q := 57) (u' := 0) dX7_order_54 rfl ck_X7_84 rfl rfl (Nat.le_of_ble_eq_true rfl) (by decide) rfl (by decide) (t_in_f c54) rfl ?_
            refine g_if_ne (t := 64) (q := 60) dX7_order_57 (by decide) rfl (fun h57 => (False.elim (by omega))) (fun h57 => ?_)
            refine g_iconst (q := 61) dX7_order_60 rfl ⟨by decide, by decide⟩ ?_
            refine g_goto (q := 0) (t := 87) dX7_order_61 (by decide) ?_
            refine g_put (q := 90) dX7_order_87 rfl fk_X7_80 fp_7_0 rfl rfl ?_
            refine g_aload_n (i := 0) (q := 91) dX7_order_90 rfl rfl rfl ?_
            refine g_getv (q := 94) (z := 2) dX7_order_91 rfl fk_X7_80 rfl rfl rfl ?_
            refine g_if_le (t := 99) (q := 97) dX7_order_94 (by decide) rfl (fun h94 => (False.elim (by omega))) (fun h94 => ?_)
            refine g_iconst (q := 98) dX7_order_97 rfl ⟨by decide, by decide⟩ ?_
            exact g_ret dX7_order_98 rfl (by decide) (by unfold p_order; (repeat (first | rw [if_pos (by omega)] | rw [if_neg (by omega)])); exact ⟨rfl, rfl⟩)
        · refine g_fnS (as := [zI t]) (q := 35) (u' := 0) dX7_order_32 rfl ck_X7_111 rfl rfl (Nat.le_of_ble_eq_true rfl) (by decide) rfl (by decide) (t_isSecret_f c32) rfl ?_
          refine g_if_eq (t := 60) (q := 38) dX7_order_35 (by decide) rfl (fun h35 => ?_) (fun h35 => (False.elim (by omega)))
          refine g_iconst (q := 61) dX7_order_60 rfl ⟨by decide, by decide⟩ ?_
          refine g_goto (q := 0) (t := 87) dX7_order_61 (by decide) ?_
          refine g_put (q := 90) dX7_order_87 rfl fk_X7_80 fp_7_0 rfl rfl ?_
          refine g_aload_n (i := 0) (q := 91) dX7_order_90 rfl rfl rfl ?_
          refine g_getv (q := 94) (z := 2) dX7_order_91 rfl fk_X7_80 rfl rfl rfl ?_
          refine g_if_le (t := 99) (q := 97) dX7_order_94 (by decide) rfl (fun h94 => (False.elim (by omega))) (fun h94 => ?_)
          refine g_iconst (q := 98) dX7_order_97 rfl ⟨by decide, by decide⟩ ?_
          exact g_ret dX7_order_98 rfl (by decide) (by unfold p_order; (repeat (first | rw [if_pos (by omega)] | rw [if_neg (by omega)])); exact ⟨rfl, rfl⟩)
      · refine g_fnS (as := [zI n]) (q := 11) (u' := 0) dX7_order_8 rfl ck_X7_108 rfl rfl (Nat.le_of_ble_eq_true rfl) (by decide) rfl (by decide) (t_isNumber_f c8) rfl ?_
        refine g_if_eq (t := 18) (q := 14) dX7_order_11 (by decide) rfl (fun h11 => ?_) (fun h11 => (False.elim (by omega)))
        refine g_iconst (q := 19) dX7_order_18 rfl ⟨by decide, by decide⟩ ?_
        refine g_istore (q := 21) dX7_order_19 rfl (by decide) ?_
        refine g_aload_n (i := 0) (q := 22) dX7_order_21 rfl rfl rfl ?_
        refine g_iload (q := 24) dX7_order_22 rfl rfl ?_
        refine g_if_ne (t := 31) (q := 27) dX7_order_24 (by decide) rfl (fun h24 => (False.elim (by omega))) (fun h24 => ?_)
        refine g_iconst (q := 28) dX7_order_27 rfl ⟨by decide, by decide⟩ ?_
        refine g_goto (q := 0) (t := 87) dX7_order_28 (by decide) ?_
        refine g_put (q := 90) dX7_order_87 rfl fk_X7_80 fp_7_0 rfl rfl ?_
        refine g_aload_n (i := 0) (q := 91) dX7_order_90 rfl rfl rfl ?_
        refine g_getv (q := 94) (z := 1) dX7_order_91 rfl fk_X7_80 rfl rfl rfl ?_
        refine g_if_le (t := 99) (q := 97) dX7_order_94 (by decide) rfl (fun h94 => (False.elim (by omega))) (fun h94 => ?_)
        refine g_iconst (q := 98) dX7_order_97 rfl ⟨by decide, by decide⟩ ?_
        exact g_ret dX7_order_98 rfl (by decide) (by unfold p_order; (repeat (first | rw [if_pos (by omega)] | rw [if_neg (by omega)])); exact ⟨rfl, rfl⟩)
    · refine g_fnS (as := [zI f]) (q := 4) (u' := 0) dX7_order_1 rfl ck_X7_98 rfl rfl (Nat.le_of_ble_eq_true rfl) (by decide) rfl (by decide) (t_isFirm_f c1) rfl ?_
      refine g_if_eq (t := 18) (q := 7) dX7_order_4 (by decide) rfl (fun h4 => ?_) (fun h4 => (False.elim (by omega)))
      refine g_iconst (q := 19) dX7_order_18 rfl ⟨by decide, by decide⟩ ?_
      refine g_istore (q := 21) dX7_order_19 rfl (by decide) ?_
      refine g_aload_n (i := 0) (q := 22) dX7_order_21 rfl rfl rfl ?_
      refine g_iload (q := 24) dX7_order_22 rfl rfl ?_
      refine g_if_ne (t := 31) (q := 27) dX7_order_24 (by decide) rfl (fun h24 => (False.elim (by omega))) (fun h24 => ?_)
      refine g_iconst (q := 28) dX7_order_27 rfl ⟨by decide, by decide⟩ ?_
      refine g_goto (q := 0) (t := 87) dX7_order_28 (by decide) ?_
      refine g_put (q := 90) dX7_order_87 rfl fk_X7_80 fp_7_0 rfl rfl ?_
      refine g_aload_n (i := 0) (q := 91) dX7_order_90 rfl rfl rfl ?_
      refine g_getv (q := 94) (z := 1) dX7_order_91 rfl fk_X7_80 rfl rfl rfl ?_
      refine g_if_le (t := 99) (q := 97) dX7_order_94 (by decide) rfl (fun h94 => (False.elim (by omega))) (fun h94 => ?_)
      refine g_iconst (q := 98) dX7_order_97 rfl ⟨by decide, by decide⟩ ?_
      exact g_ret dX7_order_98 rfl (by decide) (by unfold p_order; (repeat (first | rw [if_pos (by omega)] | rw [if_neg (by omega)])); exact ⟨rfl, rfl⟩)
def p_cancel (S : zS) (c : Nat) (o : Int) : Int × zS := if ¬ (0 ≤ o ∧ o < S.1 7) then (0, z_sS S 5 1) else if ¬ S.2.1 48 o = 1 ∨ S.2.1 53 o - S.1 6 < 10 then (0, z_sS S 5 2) else (y_cw (z_sA (z_sS S 5 0) 48 o 3) c, z_sA (z_sS S 5 0) 48 o 3)
theorem t_cancel {S : zS} {o : Int} {c : Nat} (hc : S.1 7 = c) (h60 : c ≤ 60) (hnow : 0 ≤ S.1 6 ∧ S.1 6 ≤ 9999) (hd : ∀ o : Int, 0 ≤ o → o < c → 0 ≤ S.2.1 53 o ∧ S.2.1 53 o ≤ 20000) : z_Ret mX7_cancel [zR 7, zI o] S (p_cancel S c o) := by
  have hdo := hd o
  refine z_enter (by decide +kernel) rfl (z_n1 trivial (z_n1 trivial z_n0)) (Nat.le_of_ble_eq_true rfl) ?_
  by_cases ho : 0 ≤ o ∧ o < S.1 7
  · have hdo2 := hdo ho.1 (by omega)
    refine g_aload_n (i := 0) (q := 1) dX7_cancel_0 rfl rfl rfl ?_
    refine g_aload_n (i := 0) (q := 2) dX7_cancel_1 rfl rfl rfl ?_
    refine g_iload_n (i := 1) (q := 3) dX7_cancel_2 rfl rfl rfl ?_
    refine g_fnV (as := [zI o]) (q := 6) (u' := 0) dX7_cancel_3 rfl ck_X7_139 rfl rfl rfl (Nat.le_of_ble_eq_true rfl) (by decide) rfl (by decide) (t_isOrder_t (by omega) ho) rfl ?_
    refine g_if_ne (t := 13) (q := 9) dX7_cancel_6 (by decide) rfl (fun h6 => ?_) (fun h6 => (False.elim (by omega)))
    refine g_aload_n (i := 0) (q := 14) dX7_cancel_13 rfl rfl rfl ?_
    refine g_getr (q := 17) dX7_cancel_14 rfl fk_X7_35 rfl rfl ?_
    refine g_iload_n (i := 1) (q := 18) dX7_cancel_17 rfl rfl rfl ?_
    refine g_ildv (q := 19) (z := S.2.1 48 o) dX7_cancel_18 rfl ⟨by decide, rfl, rfl⟩ (by omega) (by omega) rfl ?_
    refine g_iconst (q := 20) dX7_cancel_19 rfl ⟨by decide, by decide⟩ ?_
    refine g_icmp_ne (t := 39) (q := 23) dX7_cancel_20 (by decide) rfl (fun h20 => ?_) (fun h20 => ?_)
    · refine g_iconst (q := 40) dX7_cancel_39 rfl ⟨by decide, by decide⟩ ?_
      refine g_goto (q := 0) (t := 44) dX7_cancel_40 (by decide) ?_
      refine g_put (q := 47) dX7_cancel_44 rfl fk_X7_80 fp_7_0 rfl rfl ?_
      refine g_aload_n (i := 0) (q := 48) dX7_cancel_47 rfl rfl rfl ?_
      refine g_getv (q := 51) (z := 2) dX7_cancel_48 rfl fk_X7_80 rfl rfl rfl ?_
      refine g_if_le (t := 56) (q := 54) dX7_cancel_51 (by decide) rfl (fun h51 => (False.elim (by omega))) (fun h51 => ?_)
      refine g_iconst (q := 55) dX7_cancel_54 rfl ⟨by decide, by decide⟩ ?_
      exact g_ret dX7_cancel_55 rfl (by decide) (by unfold p_cancel; (repeat (first | rw [if_pos (by omega)] | rw [if_neg (by omega)])); exact ⟨rfl, rfl⟩)
    · refine g_aload_n (i := 0) (q := 24) dX7_cancel_23 rfl rfl rfl ?_
      refine g_getr (q := 27) dX7_cancel_24 rfl fk_X7_50 rfl rfl ?_
      refine g_iload_n (i := 1) (q := 28) dX7_cancel_27 rfl rfl rfl ?_
      refine g_ildv (q := 29) (z := S.2.1 53 o) dX7_cancel_28 rfl ⟨by decide, rfl, rfl⟩ (by omega) (by omega) rfl ?_
      refine g_aload_n (i := 0) (q := 30) dX7_cancel_29 rfl rfl rfl ?_
      refine g_getv (q := 33) (z := S.1 6) dX7_cancel_30 rfl fk_X7_91 rfl rfl rfl ?_
      refine g_isub (q := 34) dX7_cancel_33 rfl (by constructor <;> omega) ?_
      refine g_bipush (q := 36) dX7_cancel_34 rfl ⟨by decide, by decide⟩ (by decide) ?_
      refine g_icmp_ge (t := 43) (q := 39) dX7_cancel_36 (by decide) rfl (fun h36 => ?_) (fun h36 => ?_)
      · refine g_iconst (q := 44) dX7_cancel_43 rfl ⟨by decide, by decide⟩ ?_
        refine g_put (q := 47) dX7_cancel_44 rfl fk_X7_80 fp_7_0 rfl rfl ?_
        refine g_aload_n (i := 0) (q := 48) dX7_cancel_47 rfl rfl rfl ?_
        refine g_getv (q := 51) (z := 0) dX7_cancel_48 rfl fk_X7_80 rfl rfl rfl ?_
        refine g_if_le (t := 56) (q := 54) dX7_cancel_51 (by decide) rfl (fun h51 => ?_) (fun h51 => (False.elim (by omega)))
        refine g_aload_n (i := 0) (q := 57) dX7_cancel_56 rfl rfl rfl ?_
        refine g_getr (q := 60) dX7_cancel_57 rfl fk_X7_35 rfl rfl ?_
        refine g_iload_n (i := 1) (q := 61) dX7_cancel_60 rfl rfl rfl ?_
        refine g_iconst (q := 62) dX7_cancel_61 rfl ⟨by decide, by decide⟩ ?_
        refine g_iast (q := 63) dX7_cancel_62 rfl ⟨by decide, rfl, rfl⟩ (by omega) (by omega) ?_
        refine g_aload_n (i := 0) (q := 64) dX7_cancel_63 rfl rfl rfl ?_
        refine g_fnV (as := []) (q := 67) (u' := 0) dX7_cancel_64 rfl ck_X7_142 rfl rfl rfl (Nat.le_of_ble_eq_true rfl) (by decide) rfl (by decide) (t_waiting hc h60) rfl ?_
        exact g_ret dX7_cancel_67 rfl (by decide) (by unfold p_cancel; (repeat (first | rw [if_pos (by omega)] | rw [if_neg (by omega)])); exact ⟨rfl, rfl⟩)
      · refine g_iconst (q := 40) dX7_cancel_39 rfl ⟨by decide, by decide⟩ ?_
        refine g_goto (q := 0) (t := 44) dX7_cancel_40 (by decide) ?_
        refine g_put (q := 47) dX7_cancel_44 rfl fk_X7_80 fp_7_0 rfl rfl ?_
        refine g_aload_n (i := 0) (q := 48) dX7_cancel_47 rfl rfl rfl ?_
        refine g_getv (q := 51) (z := 2) dX7_cancel_48 rfl fk_X7_80 rfl rfl rfl ?_
        refine g_if_le (t := 56) (q := 54) dX7_cancel_51 (by decide) rfl (fun h51 => (False.elim (by omega))) (fun h51 => ?_)
        refine g_iconst (q := 55) dX7_cancel_54 rfl ⟨by decide, by decide⟩ ?_
        exact g_ret dX7_cancel_55 rfl (by decide) (by unfold p_cancel; (repeat (first | rw [if_pos (by omega)] | rw [if_neg (by omega)])); exact ⟨rfl, rfl⟩)
  · skip
    refine g_aload_n (i := 0) (q := 1) dX7_cancel_0 rfl rfl rfl ?_
    refine g_aload_n (i := 0) (q := 2) dX7_cancel_1 rfl rfl rfl ?_
    refine g_iload_n (i := 1) (q := 3) dX7_cancel_2 rfl rfl rfl ?_
    refine g_fnV (as := [zI o]) (q := 6) (u' := 0) dX7_cancel_3 rfl ck_X7_139 rfl rfl rfl (Nat.le_of_ble_eq_true rfl) (by decide) rfl (by decide) (t_isOrder_f (by omega) ho) rfl ?_
    refine g_if_ne (t := 13) (q := 9) dX7_cancel_6 (by decide) rfl (fun h6 => (False.elim (by omega))) (fun h6 => ?_)
    refine g_iconst (q := 10) dX7_cancel_9 rfl ⟨by decide, by decide⟩ ?_
    refine g_goto (q := 0) (t := 44) dX7_cancel_10 (by decide) ?_
    refine g_put (q := 47) dX7_cancel_44 rfl fk_X7_80 fp_7_0 rfl rfl ?_
    refine g_aload_n (i := 0) (q := 48) dX7_cancel_47 rfl rfl rfl ?_
    refine g_getv (q := 51) (z := 1) dX7_cancel_48 rfl fk_X7_80 rfl rfl rfl ?_
    refine g_if_le (t := 56) (q := 54) dX7_cancel_51 (by decide) rfl (fun h51 => (False.elim (by omega))) (fun h51 => ?_)
    refine g_iconst (q := 55) dX7_cancel_54 rfl ⟨by decide, by decide⟩ ?_
    exact g_ret dX7_cancel_55 rfl (by decide) (by unfold p_cancel; (repeat (first | rw [if_pos (by omega)] | rw [if_neg (by omega)])); exact ⟨rfl, rfl⟩)
def y_rv (S : zS) (o : Int) : zS := y_ct (y_pay (z_sA S 48 o 4) (S.2.1 52 o) (S.2.1 51 o) 5) (S.2.1 50 o) (S.2.1 52 o) o
def p_reverse (S : zS) (o : Int) : Int × zS := if ¬ (0 ≤ o ∧ o < S.1 7) then (0, z_sS S 5 1) else if ¬ (S.2.1 48 o = 2 ∧ S.1 6 - S.2.1 54 o ≤ 60 ∧ ¬ S.2.1 42 (S.2.1 50 o) = -1 ∧ S.2.1 47 (S.2.1 50 o) = o ∧ S.2.1 41 (S.2.1 52 o) = 0) then (0, z_sS S 5 2) else (S.2.1 52 o, y_rv (z_sS S 5 0) o)
theorem t_reverse {S : zS} {o : Int} (h70 : 0 ≤ S.1 7 ∧ S.1 7 ≤ 60) (hnow : 0 ≤ S.1 6 ∧ S.1 6 ≤ 9999) (h8 : 0 ≤ S.1 8 ∧ S.1 8 < 4000) (hG : ∀ f : Int, 0 ≤ f → f < 6 → S.2.1 41 f = 0 ∨ S.2.1 41 f = 1) (hd : ∀ o : Int, 0 ≤ o → o < S.1 7 → (0 ≤ S.2.1 50 o ∧ S.2.1 50 o < 200) ∧ (0 ≤ S.2.1 51 o ∧ S.2.1 51 o < 6) ∧ (S.2.1 48 o = 2 → (0 ≤ S.2.1 52 o ∧ S.2.1 52 o < 6) ∧ (0 ≤ S.2.1 54 o ∧ S.2.1 54 o ≤ 9999))) : z_Ret mX7_reverse [zR 7, zI o] S (p_reverse S o) := by
  refine z_enter (by decide +kernel) rfl (z_n1 trivial (z_n1 trivial z_n0)) (Nat.le_of_ble_eq_true rfl) ?_
  by_cases ho : 0 ≤ o ∧ o < S.1 7
  · obtain ⟨q1, q2, q3⟩ := hd o ho.1 ho.2
    by_cases e : S.2.1 48 o = 2
    · obtain ⟨q4, q5⟩ := q3 e
      have hg := hG _ q4.1 q4.2
      refine g_aload_n (i := 0) (q := 1) dX7_reverse_0 rfl rfl rfl ?_
      refine g_aload_n (i := 0) (q := 2) dX7_reverse_1 rfl rfl rfl ?_
      refine g_iload_n (i := 1) (q := 3) dX7_reverse_2 rfl rfl rfl ?_
      refine g_fnV (as := [zI o]) (q := 6) (u' := 0) dX7_reverse_3 rfl ck_X7_139 rfl rfl rfl (Nat.le_of_ble_eq_true rfl) (by decide) rfl (by decide) (t_isOrder_t h70 ho) rfl ?_
      refine g_if_ne (t := 13) (q := 9) dX7_reverse_6 (by decide) rfl (fun h6 => ?_) (fun h6 => (False.elim (by omega)))
      refine g_iconst (q := 14) dX7_reverse_13 rfl ⟨by decide, by decide⟩ ?_
      refine g_put (q := 17) dX7_reverse_14 rfl fk_X7_80 fp_7_0 rfl rfl ?_
      refine g_aload_n (i := 0) (q := 18) dX7_reverse_17 rfl rfl rfl ?_
      refine g_getv (q := 21) (z := 0) dX7_reverse_18 rfl fk_X7_80 rfl rfl rfl ?_
      refine g_if_ne (t := 113) (q := 24) dX7_reverse_21 (by decide) rfl (fun h21 => (False.elim (by omega))) (fun h21 => ?_)
      refine g_aload_n (i := 0) (q := 25) dX7_reverse_24 rfl rfl rfl ?_
      refine g_getr (q := 28) dX7_reverse_25 rfl fk_X7_35 rfl rfl ?_
      refine g_iload_n (i := 1) (q := 29) dX7_reverse_28 rfl rfl rfl ?_
      refine g_ildv (q := 30) (z := S.2.1 48 o) dX7_reverse_29 rfl ⟨by decide, rfl, rfl⟩ (by omega) (by omega) rfl ?_
      refine g_iconst (q := 31) dX7_reverse_30 rfl ⟨by decide, by decide⟩ ?_
      refine g_icmp_ne (t := 69) (q := 34) dX7_reverse_31 (by decide) rfl (fun h31 => (False.elim (by omega))) (fun h31 => ?_)
      refine g_aload_n (i := 0) (q := 35) dX7_reverse_34 rfl rfl rfl ?_
      refine g_getv (q := 38) (z := S.1 6) dX7_reverse_35 rfl fk_X7_91 rfl rfl rfl ?_
      refine g_aload_n (i := 0) (q := 39) dX7_reverse_38 rfl rfl rfl ?_
      refine g_getr (q := 42) dX7_reverse_39 rfl fk_X7_53 rfl rfl ?_
      refine g_iload_n (i := 1) (q := 43) dX7_reverse_42 rfl rfl rfl ?_
      refine g_ildv (q := 44) (z := S.2.1 54 o) dX7_reverse_43 rfl ⟨by decide, rfl, rfl⟩ (by omega) (by omega) rfl ?_
      refine g_isub (q := 45) dX7_reverse_44 rfl (by constructor <;> omega) ?_
      refine g_bipush (q := 47) dX7_reverse_45 rfl ⟨by decide, by decide⟩ (by decide) ?_
      refine g_icmp_gt (t := 69) (q := 50) dX7_reverse_47 (by decide) rfl (fun h47 => ?_) (fun h47 => ?_)
      · refine g_iconst (q := 70) dX7_reverse_69 rfl ⟨by decide, by decide⟩ ?_
        refine g_istore_n (i := 2) (q := 71) dX7_reverse_70 rfl rfl (by decide) ?_
        refine g_aload_n (i := 0) (q := 72) dX7_reverse_71 rfl rfl rfl ?_
        refine g_iload_n (i := 2) (q := 73) dX7_reverse_72 rfl rfl rfl ?_
        refine g_if_eq (t := 109) (q := 76) dX7_reverse_73 (by decide) rfl (fun h73 => ?_) (fun h73 => (False.elim (by omega)))
        refine g_iconst (q := 110) dX7_reverse_109 rfl ⟨by decide, by decide⟩ ?_
        refine g_put (q := 113) dX7_reverse_110 rfl fk_X7_80 fp_7_0 rfl rfl ?_
        rw [z_sS_sS]
        refine g_aload_n (i := 0) (q := 114) dX7_reverse_113 rfl rfl rfl ?_
        refine g_getv (q := 117) (z := 2) dX7_reverse_114 rfl fk_X7_80 rfl rfl rfl ?_
        refine g_if_le (t := 122) (q := 120) dX7_reverse_117 (by decide) rfl (fun h117 => (False.elim (by omega))) (fun h117 => ?_)
        refine g_iconst (q := 121) dX7_reverse_120 rfl ⟨by decide, by decide⟩ ?_
        exact g_ret dX7_reverse_121 rfl (by decide) (by unfold p_reverse; (repeat (first | rw [if_pos (by omega)] | rw [if_neg (by omega)])); exact ⟨rfl, rfl⟩)
      · refine g_aload_n (i := 0) (q := 51) dX7_reverse_50 rfl rfl rfl ?_
        refine g_getr (q := 54) dX7_reverse_51 rfl fk_X7_17 rfl rfl ?_
        refine g_aload_n (i := 0) (q := 55) dX7_reverse_54 rfl rfl rfl ?_
        refine g_getr (q := 58) dX7_reverse_55 rfl fk_X7_41 rfl rfl ?_
        refine g_iload_n (i := 1) (q := 59) dX7_reverse_58 rfl rfl rfl ?_
        refine g_ildv (q := 60) (z := S.2.1 50 o) dX7_reverse_59 rfl ⟨by decide, rfl, rfl⟩ (by omega) (by omega) rfl ?_
        refine g_ildv (q := 61) (z := S.2.1 42 (S.2.1 50 o)) dX7_reverse_60 rfl ⟨by decide, rfl, rfl⟩ (by omega) (by omega) rfl ?_
        refine g_iconst (q := 62) dX7_reverse_61 rfl ⟨by decide, by decide⟩ ?_
        refine g_icmp_eq (t := 69) (q := 65) dX7_reverse_62 (by decide) rfl (fun h62 => ?_) (fun h62 => ?_)
        · refine g_iconst (q := 70) dX7_reverse_69 rfl ⟨by decide, by decide⟩ ?_
          refine g_istore_n (i := 2) (q := 71) dX7_reverse_70 rfl rfl (by decide) ?_
          refine g_aload_n (i := 0) (q := 72) dX7_reverse_71 rfl rfl rfl ?_
          refine g_iload_n (i := 2) (q := 73) dX7_reverse_72 rfl rfl rfl ?_
          refine g_if_eq (t := 109) (q := 76) dX7_reverse_73 (by decide) rfl (fun h73 => ?_) (fun h73 => (False.elim (by omega)))
          refine g_iconst (q := 110) dX7_reverse_109 rfl ⟨by decide, by decide⟩ ?_
          refine g_put (q := 113) dX7_reverse_110 rfl fk_X7_80 fp_7_0 rfl rfl ?_
          rw [z_sS_sS]
          refine g_aload_n (i := 0) (q := 114) dX7_reverse_113 rfl rfl rfl ?_
          refine g_getv (q := 117) (z := 2) dX7_reverse_114 rfl fk_X7_80 rfl rfl rfl ?_
          refine g_if_le (t := 122) (q := 120) dX7_reverse_117 (by decide) rfl (fun h117 => (False.elim (by omega))) (fun h117 => ?_)
          refine g_iconst (q := 121) dX7_reverse_120 rfl ⟨by decide, by decide⟩ ?_
          exact g_ret dX7_reverse_121 rfl (by decide) (by unfold p_reverse; (repeat (first | rw [if_pos (by omega)] | rw [if_neg (by omega)])); exact ⟨rfl, rfl⟩)
        · refine g_iconst (q := 66) dX7_reverse_65 rfl ⟨by decide, by decide⟩ ?_
          refine g_goto (q := 0) (t := 70) dX7_reverse_66 (by decide) ?_
          refine g_istore_n (i := 2) (q := 71) dX7_reverse_70 rfl rfl (by decide) ?_
          refine g_aload_n (i := 0) (q := 72) dX7_reverse_71 rfl rfl rfl ?_
          refine g_iload_n (i := 2) (q := 73) dX7_reverse_72 rfl rfl rfl ?_
          refine g_if_eq (t := 109) (q := 76) dX7_reverse_73 (by decide) rfl (fun h73 => (False.elim (by omega))) (fun h73 => ?_)
          refine g_aload_n (i := 0) (q := 77) dX7_reverse_76 rfl rfl rfl ?_
          refine g_getr (q := 80) dX7_reverse_77 rfl fk_X7_32 rfl rfl ?_
          refine g_aload_n (i := 0) (q := 81) dX7_reverse_80 rfl rfl rfl ?_
          refine g_getr (q := 84) dX7_reverse_81 rfl fk_X7_41 rfl rfl ?_
          refine g_iload_n (i := 1) (q := 85) dX7_reverse_84 rfl rfl rfl ?_
          refine g_ildv (q := 86) (z := S.2.1 50 o) dX7_reverse_85 rfl ⟨by decide, rfl, rfl⟩ (by omega) (by omega) rfl ?_
          refine g_ildv (q := 87) (z := S.2.1 47 (S.2.1 50 o)) dX7_reverse_86 rfl ⟨by decide, rfl, rfl⟩ (by omega) (by omega) rfl ?_
          refine g_iload_n (i := 1) (q := 88) dX7_reverse_87 rfl rfl rfl ?_
          refine g_icmp_ne (t := 109) (q := 91) dX7_reverse_88 (by decide) rfl (fun h88 => ?_) (fun h88 => ?_)
          · refine g_iconst (q := 110) dX7_reverse_109 rfl ⟨by decide, by decide⟩ ?_
            refine g_put (q := 113) dX7_reverse_110 rfl fk_X7_80 fp_7_0 rfl rfl ?_
            rw [z_sS_sS]
            refine g_aload_n (i := 0) (q := 114) dX7_reverse_113 rfl rfl rfl ?_
            refine g_getv (q := 117) (z := 2) dX7_reverse_114 rfl fk_X7_80 rfl rfl rfl ?_
            refine g_if_le (t := 122) (q := 120) dX7_reverse_117 (by decide) rfl (fun h117 => (False.elim (by omega))) (fun h117 => ?_)
            refine g_iconst (q := 121) dX7_reverse_120 rfl ⟨by decide, by decide⟩ ?_
            exact g_ret dX7_reverse_121 rfl (by decide) (by unfold p_reverse; (repeat (first | rw [if_pos (by omega)] | rw [if_neg (by omega)])); exact ⟨rfl, rfl⟩)
          · refine g_aload_n (i := 0) (q := 92) dX7_reverse_91 rfl rfl rfl ?_
            refine g_getr (q := 95) dX7_reverse_92 rfl fk_X7_13 rfl rfl ?_
            refine g_aload_n (i := 0) (q := 96) dX7_reverse_95 rfl rfl rfl ?_
            refine g_getr (q := 99) dX7_reverse_96 rfl fk_X7_47 rfl rfl ?_
            refine g_iload_n (i := 1) (q := 100) dX7_reverse_99 rfl rfl rfl ?_
            refine g_ildv (q := 101) (z := S.2.1 52 o) dX7_reverse_100 rfl ⟨by decide, rfl, rfl⟩ (by omega) (by omega) rfl ?_
            refine g_zldv (q := 102) (z := S.2.1 41 (S.2.1 52 o)) dX7_reverse_101 rfl ⟨by decide, rfl, rfl⟩ (by omega) (by omega) rfl ?_
            refine g_if_ne (t := 109) (q := 105) dX7_reverse_102 (by decide) rfl (fun h102 => ?_) (fun h102 => ?_)
            · refine g_iconst (q := 110) dX7_reverse_109 rfl ⟨by decide, by decide⟩ ?_
              refine g_put (q := 113) dX7_reverse_110 rfl fk_X7_80 fp_7_0 rfl rfl ?_
              rw [z_sS_sS]
              refine g_aload_n (i := 0) (q := 114) dX7_reverse_113 rfl rfl rfl ?_
              refine g_getv (q := 117) (z := 2) dX7_reverse_114 rfl fk_X7_80 rfl rfl rfl ?_
              refine g_if_le (t := 122) (q := 120) dX7_reverse_117 (by decide) rfl (fun h117 => (False.elim (by omega))) (fun h117 => ?_)
              refine g_iconst (q := 121) dX7_reverse_120 rfl ⟨by decide, by decide⟩ ?_
              exact g_ret dX7_reverse_121 rfl (by decide) (by unfold p_reverse; (repeat (first | rw [if_pos (by omega)] | rw [if_neg (by omega)])); exact ⟨rfl, rfl⟩)
            · refine g_iconst (q := 106) dX7_reverse_105 rfl ⟨by decide, by decide⟩ ?_
              refine g_goto (q := 0) (t := 110) dX7_reverse_106 (by decide) ?_
              refine g_put (q := 113) dX7_reverse_110 rfl fk_X7_80 fp_7_0 rfl rfl ?_
              rw [z_sS_sS]
              refine g_aload_n (i := 0) (q := 114) dX7_reverse_113 rfl rfl rfl ?_
              refine g_getv (q := 117) (z := 0) dX7_reverse_114 rfl fk_X7_80 rfl rfl rfl ?_
              refine g_if_le (t := 122) (q := 120) dX7_reverse_117 (by decide) rfl (fun h117 => ?_) (fun h117 => (False.elim (by omega)))
              refine g_aload_n (i := 0) (q := 123) dX7_reverse_122 rfl rfl rfl ?_
              refine g_getr (q := 126) dX7_reverse_123 rfl fk_X7_35 rfl rfl ?_
              refine g_iload_n (i := 1) (q := 127) dX7_reverse_126 rfl rfl rfl ?_
              refine g_iconst (q := 128) dX7_reverse_127 rfl ⟨by decide, by decide⟩ ?_
              refine g_iast (q := 129) dX7_reverse_128 rfl ⟨by decide, rfl, rfl⟩ (by omega) (by omega) ?_
              refine g_aload_n (i := 0) (q := 130) dX7_reverse_129 rfl rfl rfl ?_
              refine g_aload_n (i := 0) (q := 131) dX7_reverse_130 rfl rfl rfl ?_
              refine g_getr (q := 134) dX7_reverse_131 rfl fk_X7_47 rfl rfl ?_
              refine g_iload_n (i := 1) (q := 135) dX7_reverse_134 rfl rfl rfl ?_
              refine g_ildv (q := 136) (z := S.2.1 52 o) dX7_reverse_135 rfl ⟨by decide, rfl, rfl⟩ (by omega) (by omega) rfl ?_
              refine g_aload_n (i := 0) (q := 137) dX7_reverse_136 rfl rfl rfl ?_
              refine g_getr (q := 140) dX7_reverse_137 rfl fk_X7_44 rfl rfl ?_
              refine g_iload_n (i := 1) (q := 141) dX7_reverse_140 rfl rfl rfl ?_
              refine g_ildv (q := 142) (z := S.2.1 51 o) dX7_reverse_141 rfl ⟨by decide, rfl, rfl⟩ (by omega) (by omega) rfl ?_
              refine g_iconst (q := 143) dX7_reverse_142 rfl ⟨by decide, by decide⟩ ?_
              refine g_fnV (as := [zI (S.2.1 52 o), zI (S.2.1 51 o), zI 5]) (q := 146) (u' := 0) dX7_reverse_143 rfl ck_X7_146 rfl rfl rfl (Nat.le_of_ble_eq_true rfl) (by decide) rfl (by decide) (t_pays (S := z_sA (z_sS S 5 0) 48 o 4) q4 q2) rfl ?_
              refine g_aload_n (i := 0) (q := 147) dX7_reverse_146 rfl rfl rfl ?_
              refine g_aload_n (i := 0) (q := 148) dX7_reverse_147 rfl rfl rfl ?_
              refine g_getr (q := 151) dX7_reverse_148 rfl fk_X7_41 rfl rfl ?_
              refine g_iload_n (i := 1) (q := 152) dX7_reverse_151 rfl rfl rfl ?_
              refine g_ildv (q := 153) (z := (y_pay (z_sA (z_sS S 5 0) 48 o 4) (S.2.1 52 o) (S.2.1 51 o) 5).2.1 50 o) dX7_reverse_152 rfl ⟨by decide, rfl, rfl⟩ (by omega) (by omega) rfl ?_
              refine g_aload_n (i := 0) (q := 154) dX7_reverse_153 rfl rfl rfl ?_
              refine g_getr (q := 157) dX7_reverse_154 rfl fk_X7_47 rfl rfl ?_
              refine g_iload_n (i := 1) (q := 158) dX7_reverse_157 rfl rfl rfl ?_
              refine g_ildv (q := 159) (z := (y_pay (z_sA (z_sS S 5 0) 48 o 4) (S.2.1 52 o) (S.2.1 51 o) 5).2.1 52 o) dX7_reverse_158 rfl ⟨by decide, rfl, rfl⟩ (by omega) (by omega) rfl ?_
              refine g_iload_n (i := 1) (q := 160) dX7_reverse_159 rfl rfl rfl ?_
              refine g_fnV (as := [zI ((y_pay (z_sA (z_sS S 5 0) 48 o 4) (S.2.1 52 o) (S.2.1 51 o) 5).2.1 50 o), zI ((y_pay (z_sA (z_sS S 5 0) 48 o 4) (S.2.1 52 o) (S.2.1 51 o) 5).2.1 52 o), zI o]) (q := 163) (u' := 0) dX7_reverse_160 rfl ck_X7_150 rfl rfl rfl (Nat.le_of_ble_eq_true rfl) (by decide) rfl (by decide) (t_comesTo (S := y_pay (z_sA (z_sS S 5 0) 48 o 4) (S.2.1 52 o) (S.2.1 51 o) 5) q1 h8) rfl ?_
              refine g_aload_n (i := 0) (q := 164) dX7_reverse_163 rfl rfl rfl ?_
              refine g_getr (q := 167) dX7_reverse_164 rfl fk_X7_47 rfl rfl ?_
              refine g_iload_n (i := 1) (q := 168) dX7_reverse_167 rfl rfl rfl ?_
              refine g_ildv (q := 169) (z := S.2.1 52 o) dX7_reverse_168 rfl ⟨by decide, rfl, rfl⟩ (by omega) (by omega) rfl ?_
              exact g_ret dX7_reverse_169 rfl (by decide) (by unfold p_reverse; (repeat (first | rw [if_pos (by omega)] | rw [if_neg (by omega)])); exact ⟨rfl, rfl⟩)
    · skip
      refine g_aload_n (i := 0) (q := 1) dX7_reverse_0 rfl rfl rfl ?_
      refine g_aload_n (i := 0) (q := 2) dX7_reverse_1 rfl rfl rfl ?_
      refine g_iload_n (i := 1) (q := 3) dX7_reverse_2 rfl rfl rfl ?_
      refine g_fnV (as := [zI o]) (q := 6) (u' := 0) dX7_reverse_3 rfl ck_X7_139 rfl rfl rfl (Nat.le_of_ble_eq_true rfl) (by decide) rfl (by decide) (t_isOrder_t h70 ho) rfl ?_
      refine g_if_ne (t := 13) (q := 9) dX7_reverse_6 (by decide) rfl (fun h6 => ?_) (fun h6 => (False.elim (by omega)))
      refine g_iconst (q := 14) dX7_reverse_13 rfl ⟨by decide, by decide⟩ ?_
      refine g_put (q := 17) dX7_reverse_14 rfl fk_X7_80 fp_7_0 rfl rfl ?_
      refine g_aload_n (i := 0) (q := 18) dX7_reverse_17 rfl rfl rfl ?_
      refine g_getv (q := 21) (z := 0) dX7_reverse_18 rfl fk_X7_80 rfl rfl rfl ?_
      refine g_if_ne (t := 113) (q := 24) dX7_reverse_21 (by decide) rfl (fun h21 => (False.elim (by omega))) (fun h21 => ?_)
      refine g_aload_n (i := 0) (q := 25) dX7_reverse_24 rfl rfl rfl ?_
      refine g_getr (q := 28) dX7_reverse_25 rfl fk_X7_35 rfl rfl ?_
      refine g_iload_n (i := 1) (q := 29) dX7_reverse_28 rfl rfl rfl ?_
      refine g_ildv (q := 30) (z := S.2.1 48 o) dX7_reverse_29 rfl ⟨by decide, rfl, rfl⟩ (by omega) (by omega) rfl ?_
      refine g_iconst (q := 31) dX7_reverse_30 rfl ⟨by decide, by decide⟩ ?_
      refine g_icmp_ne (t := 69) (q := 34) dX7_reverse_31 (by decide) rfl (fun h31 => ?_) (fun h31 => (False.elim (by omega)))
      refine g_iconst (q := 70) dX7_reverse_69 rfl ⟨by decide, by decide⟩ ?_
      refine g_istore_n (i := 2) (q := 71) dX7_reverse_70 rfl rfl (by decide) ?_
      refine g_aload_n (i := 0) (q := 72) dX7_reverse_71 rfl rfl rfl ?_
      refine g_iload_n (i := 2) (q := 73) dX7_reverse_72 rfl rfl rfl ?_
      refine g_if_eq (t := 109) (q := 76) dX7_reverse_73 (by decide) rfl (fun h73 => ?_) (fun h73 => (False.elim (by omega)))
      refine g_iconst (q := 110) dX7_reverse_109 rfl ⟨by decide, by decide⟩ ?_
      refine g_put (q := 113) dX7_reverse_110 rfl fk_X7_80 fp_7_0 rfl rfl ?_
      rw [z_sS_sS]
      refine g_aload_n (i := 0) (q := 114) dX7_reverse_113 rfl rfl rfl ?_
      refine g_getv (q := 117) (z := 2) dX7_reverse_114 rfl fk_X7_80 rfl rfl rfl ?_
      refine g_if_le (t := 122) (q := 120) dX7_reverse_117 (by decide) rfl (fun h117 => (False.elim (by omega))) (fun h117 => ?_)
      refine g_iconst (q := 121) dX7_reverse_120 rfl ⟨by decide, by decide⟩ ?_
      exact g_ret dX7_reverse_121 rfl (by decide) (by unfold p_reverse; (repeat (first | rw [if_pos (by omega)] | rw [if_neg (by omega)])); exact ⟨rfl, rfl⟩)
  · skip
    refine g_aload_n (i := 0) (q := 1) dX7_reverse_0 rfl rfl rfl ?_
    refine g_aload_n (i := 0) (q := 2) dX7_reverse_1 rfl rfl rfl ?_
    refine g_iload_n (i := 1) (q := 3) dX7_reverse_2 rfl rfl rfl ?_
    refine g_fnV (as := [zI o]) (q := 6) (u' := 0) dX7_reverse_3 rfl ck_X7_139 rfl rfl rfl (Nat.le_of_ble_eq_true rfl) (by decide) rfl (by decide) (t_isOrder_f h70 ho) rfl ?_
    refine g_if_ne (t := 13) (q := 9) dX7_reverse_6 (by decide) rfl (fun h6 => (False.elim (by omega))) (fun h6 => ?_)
    refine g_iconst (q := 10) dX7_reverse_9 rfl ⟨by decide, by decide⟩ ?_
    refine g_goto (q := 0) (t := 14) dX7_reverse_10 (by decide) ?_
    refine g_put (q := 17) dX7_reverse_14 rfl fk_X7_80 fp_7_0 rfl rfl ?_
    refine g_aload_n (i := 0) (q := 18) dX7_reverse_17 rfl rfl rfl ?_
    refine g_getv (q := 21) (z := 1) dX7_reverse_18 rfl fk_X7_80 rfl rfl rfl ?_
    refine g_if_ne (t := 113) (q := 24) dX7_reverse_21 (by decide) rfl (fun h21 => ?_) (fun h21 => (False.elim (by omega)))
    refine g_aload_n (i := 0) (q := 114) dX7_reverse_113 rfl rfl rfl ?_
    refine g_getv (q := 117) (z := 1) dX7_reverse_114 rfl fk_X7_80 rfl rfl rfl ?_
    refine g_if_le (t := 122) (q := 120) dX7_reverse_117 (by decide) rfl (fun h117 => (False.elim (by omega))) (fun h117 => ?_)
    refine g_iconst (q := 121) dX7_reverse_120 rfl ⟨by decide, by decide⟩ ?_
    exact g_ret dX7_reverse_121 rfl (by decide) (by unfold p_reverse; (repeat (first | rw [if_pos (by omega)] | rw [if_neg (by omega)])); exact ⟨rfl, rfl⟩)
/-! a firm ends -/
def y_e1 (S : zS) (f h : Int) (i : Nat) : zS :=
  if S.2.1 42 i = f then
    (if (if S.2.1 40 ((i : Int) / 10) = f then h else S.2.1 40 ((i : Int) / 10)) = h then
      (if S.2.1 42 i = S.2.1 40 ((i : Int) / 10) then z_sA (z_sA S 42 i h) 47 i (-1) else y_chg (z_sA (z_sA S 42 i h) 47 i (-1)) i 6)
    else y_chg (z_sA (z_sA S 42 i h) 47 i (-1)) i h)
  else if S.2.1 42 i = h ∧ S.2.1 40 ((i : Int) / 10) = f then y_chg S i 6 else S
def y_e1n (S : zS) (f : Int) (i : Nat) : Int := if S.2.1 42 i = f then 1 else 0
theorem y_e1_fr {S : zS} {f h : Int} {i : Nat} : (∀ q, q ≠ 8 → (y_e1 S f h i).1 q = S.1 q) ∧ (S.1 8 ≤ (y_e1 S f h i).1 8 ∧ (y_e1 S f h i).1 8 ≤ S.1 8 + 1) ∧ (∀ q j, q ≠ 42 → q ≠ 47 → q ≠ 55 → q ≠ 56 → q ≠ 57 → (y_e1 S f h i).2.1 q j = S.2.1 q j) ∧ (y_e1 S f h i).2.2 = S.2.2 := by
  have g2 : ∀ (T : zS) (n p : Int), (∀ q, q ≠ 8 → (y_chg T n p).1 q = T.1 q) ∧ (T.1 8 ≤ (y_chg T n p).1 8 ∧ (y_chg T n p).1 8 ≤ T.1 8 + 1) ∧ (∀ q j, q ≠ 42 → q ≠ 47 → q ≠ 55 → q ≠ 56 → q ≠ 57 → (y_chg T n p).2.1 q j = T.2.1 q j) ∧ (y_chg T n p).2.2 = T.2.2 := by
    intro T n p
    refine ⟨fun q hq => ?_, ⟨show T.1 8 ≤ T.1 8 + 1 by omega, show T.1 8 + 1 ≤ T.1 8 + 1 by omega⟩, fun q j _ _ a b c => ?_, rfl⟩
    · unfold y_chg
      rw [zv_sS, if_neg hq]
      rfl
    · unfold y_chg
      rw [za_sS, za_ne c, za_ne b, za_ne a]
  have g3 : (∀ q, q ≠ 8 → (z_sA (z_sA S 42 i h) 47 i (-1)).1 q = S.1 q) ∧ ((z_sA (z_sA S 42 i h) 47 i (-1)).1 8 = S.1 8) ∧ (∀ q j, q ≠ 42 → q ≠ 47 → q ≠ 55 → q ≠ 56 → q ≠ 57 → (z_sA (z_sA S 42 i h) 47 i (-1)).2.1 q j = S.2.1 q j) ∧ (z_sA (z_sA S 42 i h) 47 i (-1)).2.2 = S.2.2 :=
    ⟨fun _ _ => rfl, rfl, fun q j a b _ _ _ => by rw [za_ne b, za_ne a], rfl⟩
  have g4 : ∀ p : Int, (∀ q, q ≠ 8 → (y_chg (z_sA (z_sA S 42 i h) 47 i (-1)) i p).1 q = S.1 q) ∧ (S.1 8 ≤ (y_chg (z_sA (z_sA S 42 i h) 47 i (-1)) i p).1 8 ∧ (y_chg (z_sA (z_sA S 42 i h) 47 i (-1)) i p).1 8 ≤ S.1 8 + 1) ∧ (∀ q j, q ≠ 42 → q ≠ 47 → q ≠ 55 → q ≠ 56 → q ≠ 57 → (y_chg (z_sA (z_sA S 42 i h) 47 i (-1)) i p).2.1 q j = S.2.1 q j) ∧ (y_chg (z_sA (z_sA S 42 i h) 47 i (-1)) i p).2.2 = S.2.2 := by
    intro p
    obtain ⟨a1, a2, a3, a4⟩ := g2 (z_sA (z_sA S 42 i h) 47 i (-1)) i p
    exact ⟨fun q hq => a1 q hq, a2, fun q j a b c d e => by rw [a3 q j a b c d e, g3.2.2.1 q j a b c d e], a4⟩
  unfold y_e1
  by_cases c1 : S.2.1 42 i = f
  · rw [if_pos c1]
    by_cases c2 : (if S.2.1 40 ((i : Int) / 10) = f then h else S.2.1 40 ((i : Int) / 10)) = h
    · rw [if_pos c2]
      by_cases c3 : S.2.1 42 i = S.2.1 40 ((i : Int) / 10)
      · rw [if_pos c3]
        exact ⟨g3.1, ⟨Int.le_refl _, show S.1 8 ≤ S.1 8 + 1 by omega⟩, g3.2.2.1, rfl⟩
      · rw [if_neg c3]
        exact g4 6
    · rw [if_neg c2]
      exact g4 h
  · rw [if_neg c1]
    by_cases c2 : S.2.1 42 i = h ∧ S.2.1 40 ((i : Int) / 10) = f
    · rw [if_pos c2]
      exact g2 S i 6
    · rw [if_neg c2]
      exact ⟨fun _ _ => rfl, ⟨Int.le_refl _, by omega⟩, fun _ _ _ _ _ _ _ => rfl, rfl⟩
def y_el (S : zS) (f h : Int) (i k : Nat) : zS := x_fold (fun T n => y_e1 T f h n) i k S
def y_en2 (S : zS) (f h : Int) (i k : Nat) : Int := x_foldn (fun T n => y_e1 T f h n) (fun T n => y_e1n T f n) i k S
theorem y_el_0 {S : zS} {f h : Int} {i : Nat} : y_el S f h i 0 = S := by unfold y_el; rw [x_fold]
theorem y_el_s {S : zS} {f h : Int} {i k : Nat} : y_el S f h i (k + 1) = y_el (y_e1 S f h i) f h (i + 1) k := by unfold y_el; rw [x_fold_s]
theorem y_en2_0 {S : zS} {f h : Int} {i : Nat} : y_en2 S f h i 0 = 0 := by unfold y_en2; rw [x_foldn]
theorem y_en2_s {S : zS} {f h : Int} {i k : Nat} : y_en2 S f h i (k + 1) = y_e1n S f i + y_en2 (y_e1 S f h i) f h (i + 1) k := by unfold y_en2; rw [x_foldn_s]
theorem y_el_fr {f h : Int} (k : Nat) : ∀ (i : Nat) (S : zS), (∀ q, q ≠ 8 → (y_el S f h i k).1 q = S.1 q) ∧ (S.1 8 ≤ (y_el S f h i k).1 8 ∧ (y_el S f h i k).1 8 ≤ S.1 8 + k) ∧ (∀ q j, q ≠ 42 → q ≠ 47 → q ≠ 55 → q ≠ 56 → q ≠ 57 → (y_el S f h i k).2.1 q j = S.2.1 q j) ∧ (y_el S f h i k).2.2 = S.2.2 := by
  induction k with
  | zero => intro i S; rw [y_el_0]; exact ⟨fun _ _ => rfl, ⟨Int.le_refl _, by omega⟩, fun _ _ _ _ _ _ _ => rfl, rfl⟩
  | succ k ih =>
    intro i S
    obtain ⟨h1, h2, h3, h4⟩ := ih (i + 1) (y_e1 S f h i)
    obtain ⟨g1, g2, g3, g4⟩ := y_e1_fr (S := S) (f := f) (h := h) (i := i)
    rw [y_el_s]
    exact ⟨fun q hq => by rw [h1 q hq, g1 q hq], ⟨by omega, by omega⟩, fun q j a b c d e => by rw [h3 q j a b c d e, g3 q j a b c d e], by rw [h4, g4]⟩
