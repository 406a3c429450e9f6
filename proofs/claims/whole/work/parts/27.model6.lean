/-! ===== the reference's public calls, the rest ===== -/
def p_setLag (S : zS) (f g : Int) : Int × zS := if ¬ (0 ≤ f ∧ f < 6) then (0, z_sS S 5 1) else if ¬ (0 ≤ g ∧ g ≤ 50) then (0, z_sS S 5 2) else (S.2.1 59 f, z_sA (z_sS S 5 0) 59 f g)
theorem t_setLag {S : zS} {f g : Int} : z_Ret mX7_setLag [zR 7, zI f, zI g] S (p_setLag S f g) := by
  refine z_enter (by decide +kernel) rfl (z_n1 trivial (z_n1 trivial (z_n1 trivial z_n0))) (Nat.le_of_ble_eq_true rfl) ?_
  refine g_aload_n (i := 0) (q := 1) dX7_setLag_0 rfl rfl rfl ?_
  refine g_iload_n (i := 1) (q := 2) dX7_setLag_1 rfl rfl rfl ?_
  by_cases c2 : 0 ≤ f ∧ f < 6
  · refine g_fnS (as := [zI f]) (q := 5) (u' := 0) dX7_setLag_2 rfl ck_X7_98 rfl rfl (Nat.le_of_ble_eq_true rfl) (by decide) rfl (by decide) (t_isFirm_t c2) rfl ?_
    refine g_if_ne (t := 12) (q := 8) dX7_setLag_5 (by decide) rfl (fun h5 => ?_) (fun h5 => (False.elim (by omega)))
    refine g_iload_n (i := 2) (q := 13) dX7_setLag_12 rfl rfl rfl ?_
    refine g_iconst (q := 14) dX7_setLag_13 rfl ⟨by decide, by decide⟩ ?_
    refine g_bipush (q := 16) dX7_setLag_14 rfl ⟨by decide, by decide⟩ (by decide) ?_
    by_cases c16 : 0 ≤ g ∧ g ≤ 50
    · refine g_fnS (as := [zI g, zI 0, zI 50]) (q := 19) (u' := 0) dX7_setLag_16 rfl ck_X7_84 rfl rfl (Nat.le_of_ble_eq_true rfl) (by decide) rfl (by decide) (t_in_t c16) rfl ?_
      refine g_if_eq (t := 26) (q := 22) dX7_setLag_19 (by decide) rfl (fun h19 => (False.elim (by omega))) (fun h19 => ?_)
      refine g_iconst (q := 23) dX7_setLag_22 rfl ⟨by decide, by decide⟩ ?_
      refine g_goto (q := 0) (t := 27) dX7_setLag_23 (by decide) ?_
      refine g_put (q := 30) dX7_setLag_27 rfl fk_X7_80 fp_7_0 rfl rfl ?_
      refine g_aload_n (i := 0) (q := 31) dX7_setLag_30 rfl rfl rfl ?_
      refine g_getv (q := 34) (z := 0) dX7_setLag_31 rfl fk_X7_80 rfl rfl rfl ?_
      refine g_if_le (t := 39) (q := 37) dX7_setLag_34 (by decide) rfl (fun h34 => ?_) (fun h34 => (False.elim (by omega)))
      refine g_aload_n (i := 0) (q := 40) dX7_setLag_39 rfl rfl rfl ?_
      refine g_getr (q := 43) dX7_setLag_40 rfl fk_X7_68 rfl rfl ?_
      refine g_iload_n (i := 1) (q := 44) dX7_setLag_43 rfl rfl rfl ?_
      refine g_ildv (q := 45) (z := S.2.1 59 f) dX7_setLag_44 rfl ⟨by decide, rfl, rfl⟩ (by omega) (by omega) rfl ?_
      refine g_istore_n (i := 3) (q := 46) dX7_setLag_45 rfl rfl (by decide) ?_
      refine g_aload_n (i := 0) (q := 47) dX7_setLag_46 rfl rfl rfl ?_
      refine g_getr (q := 50) dX7_setLag_47 rfl fk_X7_68 rfl rfl ?_
      refine g_iload_n (i := 1) (q := 51) dX7_setLag_50 rfl rfl rfl ?_
      refine g_iload_n (i := 2) (q := 52) dX7_setLag_51 rfl rfl rfl ?_
      refine g_iast (q := 53) dX7_setLag_52 rfl ⟨by decide, rfl, rfl⟩ (by omega) (by omega) ?_
      refine g_iload_n (i := 3) (q := 54) dX7_setLag_53 rfl rfl rfl ?_
      exact g_ret dX7_setLag_54 rfl (by decide) (by unfold p_setLag; (repeat (first | rw [if_pos (by omega)] | rw [if_neg (by omega)])); exact ⟨rfl, rfl⟩)
    · refine g_fnS (as := [zI g, zI 0, zI 50]) (q := 19) (u' := 0) dX7_setLag_16 rfl ck_X7_84 rfl rfl (Nat.le_of_ble_eq_true rfl) (by decide) rfl (by decide) (t_in_f c16) rfl ?_
      refine g_if_eq (t := 26) (q := 22) dX7_setLag_19 (by decide) rfl (fun h19 => ?_) (fun h19 => (False.elim (by omega)))
      refine g_iconst (q := 27) dX7_setLag_26 rfl ⟨by decide, by decide⟩ ?_
      refine g_put (q := 30) dX7_setLag_27 rfl fk_X7_80 fp_7_0 rfl rfl ?_
      refine g_aload_n (i := 0) (q := 31) dX7_setLag_30 rfl rfl rfl ?_
      refine g_getv (q := 34) (z := 2) dX7_setLag_31 rfl fk_X7_80 rfl rfl rfl ?_
      refine g_if_le (t := 39) (q := 37) dX7_setLag_34 (by decide) rfl (fun h34 => (False.elim (by omega))) (fun h34 => ?_)
      refine g_iconst (q := 38) dX7_setLag_37 rfl ⟨by decide, by decide⟩ ?_
      exact g_ret dX7_setLag_38 rfl (by decide) (by unfold p_setLag; (repeat (first | rw [if_pos (by omega)] | rw [if_neg (by omega)])); exact ⟨rfl, rfl⟩)
  · refine g_fnS (as := [zI f]) (q := 5) (u' := 0) dX7_setLag_2 rfl ck_X7_98 rfl rfl (Nat.le_of_ble_eq_true rfl) (by decide) rfl (by decide) (t_isFirm_f c2) rfl ?_
    refine g_if_ne (t := 12) (q := 8) dX7_setLag_5 (by decide) rfl (fun h5 => (False.elim (by omega))) (fun h5 => ?_)
    refine g_iconst (q := 9) dX7_setLag_8 rfl ⟨by decide, by decide⟩ ?_
    refine g_goto (q := 0) (t := 27) dX7_setLag_9 (by decide) ?_
    refine g_put (q := 30) dX7_setLag_27 rfl fk_X7_80 fp_7_0 rfl rfl ?_
    refine g_aload_n (i := 0) (q := 31) dX7_setLag_30 rfl rfl rfl ?_
    refine g_getv (q := 34) (z := 1) dX7_setLag_31 rfl fk_X7_80 rfl rfl rfl ?_
    refine g_if_le (t := 39) (q := 37) dX7_setLag_34 (by decide) rfl (fun h34 => (False.elim (by omega))) (fun h34 => ?_)
    refine g_iconst (q := 38) dX7_setLag_37 rfl ⟨by decide, by decide⟩ ?_
    exact g_ret dX7_setLag_38 rfl (by decide) (by unfold p_setLag; (repeat (first | rw [if_pos (by omega)] | rw [if_neg (by omega)])); exact ⟨rfl, rfl⟩)
abbrev z_RetZ (M : zM) (as : List zV) (S : zS) (p : Int × zS) : Prop := z_Fn M as S (some (zI p.1)) p.2
def p_setDown (S : zS) (f g : Int) : Int × zS := if ¬ (0 ≤ f ∧ f < 6) then (0, z_sS S 5 1) else (S.2.1 60 f, z_sA (z_sS S 5 0) 60 f g)
theorem t_setDown {S : zS} {f g : Int} (hg : g = 0 ∨ g = 1) (hd : ∀ f : Int, 0 ≤ f → f < 6 → S.2.1 60 f = 0 ∨ S.2.1 60 f = 1) : z_RetZ mX7_setDown [zR 7, zI f, zI g] S (p_setDown S f g) := by
  have hdf := hd f
  refine z_enter (by decide +kernel) rfl (z_n1 trivial (z_n1 trivial (z_n1 trivial z_n0))) (Nat.le_of_ble_eq_true rfl) ?_
  by_cases hf : 0 ≤ f ∧ f < 6
  · have hd2 := hdf hf.1 hf.2
    refine g_aload_n (i := 0) (q := 1) dX7_setDown_0 rfl rfl rfl ?_
    refine g_iload_n (i := 1) (q := 2) dX7_setDown_1 rfl rfl rfl ?_
    refine g_fnS (as := [zI f]) (q := 5) (u' := 0) dX7_setDown_2 rfl ck_X7_98 rfl rfl (Nat.le_of_ble_eq_true rfl) (by decide) rfl (by decide) (t_isFirm_t hf) rfl ?_
    refine g_if_eq (t := 12) (q := 8) dX7_setDown_5 (by decide) rfl (fun h5 => (False.elim (by omega))) (fun h5 => ?_)
    refine g_iconst (q := 9) dX7_setDown_8 rfl ⟨by decide, by decide⟩ ?_
    refine g_goto (q := 0) (t := 13) dX7_setDown_9 (by decide) ?_
    refine g_put (q := 16) dX7_setDown_13 rfl fk_X7_80 fp_7_0 rfl rfl ?_
    refine g_aload_n (i := 0) (q := 17) dX7_setDown_16 rfl rfl rfl ?_
    refine g_getv (q := 20) (z := 0) dX7_setDown_17 rfl fk_X7_80 rfl rfl rfl ?_
    refine g_if_le (t := 25) (q := 23) dX7_setDown_20 (by decide) rfl (fun h20 => ?_) (fun h20 => (False.elim (by omega)))
    refine g_aload_n (i := 0) (q := 26) dX7_setDown_25 rfl rfl rfl ?_
    refine g_getr (q := 29) dX7_setDown_26 rfl fk_X7_71 rfl rfl ?_
    refine g_iload_n (i := 1) (q := 30) dX7_setDown_29 rfl rfl rfl ?_
    refine g_zldv (q := 31) (z := S.2.1 60 f) dX7_setDown_30 rfl ⟨by decide, rfl, rfl⟩ (by omega) (by omega) rfl ?_
    refine g_istore_n (i := 3) (q := 32) dX7_setDown_31 rfl rfl (by decide) ?_
    refine g_aload_n (i := 0) (q := 33) dX7_setDown_32 rfl rfl rfl ?_
    refine g_getr (q := 36) dX7_setDown_33 rfl fk_X7_71 rfl rfl ?_
    refine g_iload_n (i := 1) (q := 37) dX7_setDown_36 rfl rfl rfl ?_
    refine g_iload_n (i := 2) (q := 38) dX7_setDown_37 rfl rfl rfl ?_
    refine g_zast (q := 39) dX7_setDown_38 rfl ⟨by decide, rfl, rfl⟩ (by omega) (by omega) (by omega) ?_
    refine g_iload_n (i := 3) (q := 40) dX7_setDown_39 rfl rfl rfl ?_
    exact g_retz dX7_setDown_40 rfl (by omega) (by decide) (by unfold p_setDown; (repeat (first | rw [if_pos (by omega)] | rw [if_neg (by omega)])); exact ⟨rfl, rfl⟩)
  · skip
    refine g_aload_n (i := 0) (q := 1) dX7_setDown_0 rfl rfl rfl ?_
    refine g_iload_n (i := 1) (q := 2) dX7_setDown_1 rfl rfl rfl ?_
    refine g_fnS (as := [zI f]) (q := 5) (u' := 0) dX7_setDown_2 rfl ck_X7_98 rfl rfl (Nat.le_of_ble_eq_true rfl) (by decide) rfl (by decide) (t_isFirm_f hf) rfl ?_
    refine g_if_eq (t := 12) (q := 8) dX7_setDown_5 (by decide) rfl (fun h5 => ?_) (fun h5 => (False.elim (by omega)))
    refine g_iconst (q := 13) dX7_setDown_12 rfl ⟨by decide, by decide⟩ ?_
    refine g_put (q := 16) dX7_setDown_13 rfl fk_X7_80 fp_7_0 rfl rfl ?_
    refine g_aload_n (i := 0) (q := 17) dX7_setDown_16 rfl rfl rfl ?_
    refine g_getv (q := 20) (z := 1) dX7_setDown_17 rfl fk_X7_80 rfl rfl rfl ?_
    refine g_if_le (t := 25) (q := 23) dX7_setDown_20 (by decide) rfl (fun h20 => (False.elim (by omega))) (fun h20 => ?_)
    refine g_iconst (q := 24) dX7_setDown_23 rfl ⟨by decide, by decide⟩ ?_
    exact g_retz dX7_setDown_24 rfl (by omega) (by decide) (by unfold p_setDown; (repeat (first | rw [if_pos (by omega)] | rw [if_neg (by omega)])); exact ⟨rfl, rfl⟩)
def p_correct (S : zS) (f : Int) : Int × zS := if ¬ (0 ≤ f ∧ f < 6) then (0, z_sS S 5 1) else (S.1 8 - S.2.1 58 f, z_sA (z_sS S 5 0) 58 f (S.1 8))
theorem t_correct {S : zS} {f : Int} (h8 : S.1 8 ≤ 4000) (hk : ∀ f : Int, 0 ≤ f → f < 6 → 0 ≤ S.2.1 58 f ∧ S.2.1 58 f ≤ S.1 8) : z_Ret mX7_correct [zR 7, zI f] S (p_correct S f) := by
  have hkf := hk f
  refine z_enter (by decide +kernel) rfl (z_n1 trivial (z_n1 trivial z_n0)) (Nat.le_of_ble_eq_true rfl) ?_
  by_cases hf : 0 ≤ f ∧ f < 6
  · have hk2 := hkf hf.1 hf.2
    refine g_aload_n (i := 0) (q := 1) dX7_correct_0 rfl rfl rfl ?_
    refine g_iload_n (i := 1) (q := 2) dX7_correct_1 rfl rfl rfl ?_
    refine g_fnS (as := [zI f]) (q := 5) (u' := 0) dX7_correct_2 rfl ck_X7_98 rfl rfl (Nat.le_of_ble_eq_true rfl) (by decide) rfl (by decide) (t_isFirm_t hf) rfl ?_
    refine g_if_eq (t := 12) (q := 8) dX7_correct_5 (by decide) rfl (fun h5 => (False.elim (by omega))) (fun h5 => ?_)
    refine g_iconst (q := 9) dX7_correct_8 rfl ⟨by decide, by decide⟩ ?_
    refine g_goto (q := 0) (t := 13) dX7_correct_9 (by decide) ?_
    refine g_put (q := 16) dX7_correct_13 rfl fk_X7_80 fp_7_0 rfl rfl ?_
    refine g_aload_n (i := 0) (q := 17) dX7_correct_16 rfl rfl rfl ?_
    refine g_getv (q := 20) (z := 0) dX7_correct_17 rfl fk_X7_80 rfl rfl rfl ?_
    refine g_if_le (t := 25) (q := 23) dX7_correct_20 (by decide) rfl (fun h20 => ?_) (fun h20 => (False.elim (by omega)))
    refine g_aload_n (i := 0) (q := 26) dX7_correct_25 rfl rfl rfl ?_
    refine g_getv (q := 29) (z := S.1 8) dX7_correct_26 rfl fk_X7_117 rfl rfl rfl ?_
    refine g_aload_n (i := 0) (q := 30) dX7_correct_29 rfl rfl rfl ?_
    refine g_getr (q := 33) dX7_correct_30 rfl fk_X7_65 rfl rfl ?_
    refine g_iload_n (i := 1) (q := 34) dX7_correct_33 rfl rfl rfl ?_
    refine g_ildv (q := 35) (z := S.2.1 58 f) dX7_correct_34 rfl ⟨by decide, rfl, rfl⟩ (by omega) (by omega) rfl ?_
    refine g_isub (q := 36) dX7_correct_35 rfl (by constructor <;> omega) ?_
    refine g_istore_n (i := 2) (q := 37) dX7_correct_36 rfl rfl (by decide) ?_
    refine g_aload_n (i := 0) (q := 38) dX7_correct_37 rfl rfl rfl ?_
    refine g_getr (q := 41) dX7_correct_38 rfl fk_X7_65 rfl rfl ?_
    refine g_iload_n (i := 1) (q := 42) dX7_correct_41 rfl rfl rfl ?_
    refine g_aload_n (i := 0) (q := 43) dX7_correct_42 rfl rfl rfl ?_
    refine g_getv (q := 46) (z := S.1 8) dX7_correct_43 rfl fk_X7_117 rfl rfl rfl ?_
    refine g_iast (q := 47) dX7_correct_46 rfl ⟨by decide, rfl, rfl⟩ (by omega) (by omega) ?_
    refine g_iload_n (i := 2) (q := 48) dX7_correct_47 rfl rfl rfl ?_
    exact g_ret dX7_correct_48 rfl (by decide) (by unfold p_correct; (repeat (first | rw [if_pos (by omega)] | rw [if_neg (by omega)])); exact ⟨rfl, rfl⟩)
  · skip
    refine g_aload_n (i := 0) (q := 1) dX7_correct_0 rfl rfl rfl ?_
    refine g_iload_n (i := 1) (q := 2) dX7_correct_1 rfl rfl rfl ?_
    refine g_fnS (as := [zI f]) (q := 5) (u' := 0) dX7_correct_2 rfl ck_X7_98 rfl rfl (Nat.le_of_ble_eq_true rfl) (by decide) rfl (by decide) (t_isFirm_f hf) rfl ?_
    refine g_if_eq (t := 12) (q := 8) dX7_correct_5 (by decide) rfl (fun h5 => ?_) (fun h5 => (False.elim (by omega)))
    refine g_iconst (q := 13) dX7_correct_12 rfl ⟨by decide, by decide⟩ ?_
    refine g_put (q := 16) dX7_correct_13 rfl fk_X7_80 fp_7_0 rfl rfl ?_
    refine g_aload_n (i := 0) (q := 17) dX7_correct_16 rfl rfl rfl ?_
    refine g_getv (q := 20) (z := 1) dX7_correct_17 rfl fk_X7_80 rfl rfl rfl ?_
    refine g_if_le (t := 25) (q := 23) dX7_correct_20 (by decide) rfl (fun h20 => (False.elim (by omega))) (fun h20 => ?_)
    refine g_iconst (q := 24) dX7_correct_23 rfl ⟨by decide, by decide⟩ ?_
    exact g_ret dX7_correct_24 rfl (by decide) (by unfold p_correct; (repeat (first | rw [if_pos (by omega)] | rw [if_neg (by omega)])); exact ⟨rfl, rfl⟩)
def p_server (S : zS) (n : Int) : Int × zS := if ¬ (0 ≤ n ∧ n < 200) then (0, z_sS S 5 1) else (S.2.1 42 n, z_sS S 5 0)
theorem t_server {S : zS} {n : Int} : z_Ret mX7_server [zR 7, zI n] S (p_server S n) := by
  refine z_enter (by decide +kernel) rfl (z_n1 trivial (z_n1 trivial z_n0)) (Nat.le_of_ble_eq_true rfl) ?_
  by_cases hn : 0 ≤ n ∧ n < 200
  · skip
    refine g_aload_n (i := 0) (q := 1) dX7_server_0 rfl rfl rfl ?_
    refine g_iload_n (i := 1) (q := 2) dX7_server_1 rfl rfl rfl ?_
    refine g_fnV (as := [zI n]) (q := 5) (u' := 0) dX7_server_2 rfl ck_X7_166 rfl rfl rfl (Nat.le_of_ble_eq_true rfl) (by decide) rfl (by decide) (t_asksNumber_t hn) rfl ?_
    refine g_if_eq (t := 17) (q := 8) dX7_server_5 (by decide) rfl (fun h5 => (False.elim (by omega))) (fun h5 => ?_)
    refine g_aload_n (i := 0) (q := 9) dX7_server_8 rfl rfl rfl ?_
    refine g_getr (q := 12) dX7_server_9 rfl fk_X7_17 rfl rfl ?_
    refine g_iload_n (i := 1) (q := 13) dX7_server_12 rfl rfl rfl ?_
    refine g_ildv (q := 14) (z := S.2.1 42 n) dX7_server_13 rfl ⟨by decide, rfl, rfl⟩ (by omega) (by omega) rfl ?_
    refine g_goto (q := 0) (t := 18) dX7_server_14 (by decide) ?_
    exact g_ret dX7_server_18 rfl (by decide) (by unfold p_server; (repeat (first | rw [if_pos (by omega)] | rw [if_neg (by omega)])); exact ⟨rfl, rfl⟩)
  · skip
    refine g_aload_n (i := 0) (q := 1) dX7_server_0 rfl rfl rfl ?_
    refine g_iload_n (i := 1) (q := 2) dX7_server_1 rfl rfl rfl ?_
    refine g_fnV (as := [zI n]) (q := 5) (u' := 0) dX7_server_2 rfl ck_X7_166 rfl rfl rfl (Nat.le_of_ble_eq_true rfl) (by decide) rfl (by decide) (t_asksNumber_f hn) rfl ?_
    refine g_if_eq (t := 17) (q := 8) dX7_server_5 (by decide) rfl (fun h5 => ?_) (fun h5 => (False.elim (by omega)))
    refine g_iconst (q := 18) dX7_server_17 rfl ⟨by decide, by decide⟩ ?_
    exact g_ret dX7_server_18 rfl (by decide) (by unfold p_server; (repeat (first | rw [if_pos (by omega)] | rw [if_neg (by omega)])); exact ⟨rfl, rfl⟩)
theorem t_serverAnew {S : zS} {n : Int} : z_Ret mX7_serverAnew [zR 7, zI n] S (p_server S n) := by
  refine z_enter (by decide +kernel) rfl (z_n1 trivial (z_n1 trivial z_n0)) (Nat.le_of_ble_eq_true rfl) ?_
  by_cases hn : 0 ≤ n ∧ n < 200
  · skip
    refine g_aload_n (i := 0) (q := 1) dX7_serverAnew_0 rfl rfl rfl ?_
    refine g_iload_n (i := 1) (q := 2) dX7_serverAnew_1 rfl rfl rfl ?_
    refine g_fnV (as := [zI n]) (q := 5) (u' := 0) dX7_serverAnew_2 rfl ck_X7_166 rfl rfl rfl (Nat.le_of_ble_eq_true rfl) (by decide) rfl (by decide) (t_asksNumber_t hn) rfl ?_
    refine g_if_eq (t := 17) (q := 8) dX7_serverAnew_5 (by decide) rfl (fun h5 => (False.elim (by omega))) (fun h5 => ?_)
    refine g_aload_n (i := 0) (q := 9) dX7_serverAnew_8 rfl rfl rfl ?_
    refine g_getr (q := 12) dX7_serverAnew_9 rfl fk_X7_17 rfl rfl ?_
    refine g_iload_n (i := 1) (q := 13) dX7_serverAnew_12 rfl rfl rfl ?_
    refine g_ildv (q := 14) (z := S.2.1 42 n) dX7_serverAnew_13 rfl ⟨by decide, rfl, rfl⟩ (by omega) (by omega) rfl ?_
    refine g_goto (q := 0) (t := 18) dX7_serverAnew_14 (by decide) ?_
    exact g_ret dX7_serverAnew_18 rfl (by decide) (by unfold p_server; (repeat (first | rw [if_pos (by omega)] | rw [if_neg (by omega)])); exact ⟨rfl, rfl⟩)
  · skip
    refine g_aload_n (i := 0) (q := 1) dX7_serverAnew_0 rfl rfl rfl ?_
    refine g_iload_n (i := 1) (q := 2) dX7_serverAnew_1 rfl rfl rfl ?_
    refine g_fnV (as := [zI n]) (q := 5) (u' := 0) dX7_serverAnew_2 rfl ck_X7_166 rfl rfl rfl (Nat.le_of_ble_eq_true rfl) (by decide) rfl (by decide) (t_asksNumber_f hn) rfl ?_
    refine g_if_eq (t := 17) (q := 8) dX7_serverAnew_5 (by decide) rfl (fun h5 => ?_) (fun h5 => (False.elim (by omega)))
    refine g_iconst (q := 18) dX7_serverAnew_17 rfl ⟨by decide, by decide⟩ ?_
    exact g_ret dX7_serverAnew_18 rfl (by decide) (by unfold p_server; (repeat (first | rw [if_pos (by omega)] | rw [if_neg (by omega)])); exact ⟨rfl, rfl⟩)
def p_number (S : zS) (c : Nat) (n w : Int) : Int × zS := if ¬ (0 ≤ n ∧ n < 200) then (0, z_sS S 5 1) else if ¬ (0 ≤ w ∧ w < 5) then (0, z_sS S 5 2) else
  (if w = 0 then S.2.1 40 (n / 10) else if w = 1 then z_b (S.1 6 - S.2.1 44 n < 100) else if w = 2 then z_b (S.1 6 - S.2.1 45 n < 50) else if w = 3 then z_b (S.1 6 - S.2.1 46 n ≤ 30) else y_wf (z_sS S 5 0) n c, z_sS S 5 0)
theorem t_number {S : zS} {n w : Int} {c : Nat} (hc : S.1 7 = c) (h60 : c ≤ 60) (hM : yM S) : z_Ret mX7_number [zR 7, zI n, zI w] S (p_number S c n w) := by
  have hM2 := hM.2 n
  refine z_enter (by decide +kernel) rfl (z_n1 trivial (z_n1 trivial (z_n1 trivial z_n0))) (Nat.le_of_ble_eq_true rfl) ?_
  by_cases hn : 0 ≤ n ∧ n < 200
  · by_cases hw : 0 ≤ w ∧ w < 5
    · have hw5 : w = 0 ∨ w = 1 ∨ w = 2 ∨ w = 3 ∨ w = 4 := by omega
      rcases hw5 with rfl | rfl | rfl | rfl | rfl
      · skip
        refine g_aload_n (i := 0) (q := 1) dX7_number_0 rfl rfl rfl ?_
        refine g_iload_n (i := 1) (q := 2) dX7_number_1 rfl rfl rfl ?_
        refine g_fnS (as := [zI n]) (q := 5) (u' := 0) dX7_number_2 rfl ck_X7_108 rfl rfl (Nat.le_of_ble_eq_true rfl) (by decide) rfl (by decide) (t_isNumber_t hn) rfl ?_
        refine g_if_ne (t := 12) (q := 8) dX7_number_5 (by decide) rfl (fun h5 => ?_) (fun h5 => (False.elim (by omega)))
        refine g_iload_n (i := 2) (q := 13) dX7_number_12 rfl rfl rfl ?_
        refine g_iconst (q := 14) dX7_number_13 rfl ⟨by decide, by decide⟩ ?_
        refine g_iconst (q := 15) dX7_number_14 rfl ⟨by decide, by decide⟩ ?_
        refine g_fnS (as := [zI 0, zI 0, zI 4]) (q := 18) (u' := 0) dX7_number_15 rfl ck_X7_84 rfl rfl (Nat.le_of_ble_eq_true rfl) (by decide) rfl (by decide) (t_in_t (by omega)) rfl ?_
        refine g_if_eq (t := 25) (q := 21) dX7_number_18 (by decide) rfl (fun h18 => (False.elim (by omega))) (fun h18 => ?_)
        refine g_iconst (q := 22) dX7_number_21 rfl ⟨by decide, by decide⟩ ?_
        refine g_goto (q := 0) (t := 26) dX7_number_22 (by decide) ?_
        refine g_put (q := 29) dX7_number_26 rfl fk_X7_80 fp_7_0 rfl rfl ?_
        refine g_aload_n (i := 0) (q := 30) dX7_number_29 rfl rfl rfl ?_
        refine g_getv (q := 33) (z := 0) dX7_number_30 rfl fk_X7_80 rfl rfl rfl ?_
        refine g_if_le (t := 38) (q := 36) dX7_number_33 (by decide) rfl (fun h33 => ?_) (fun h33 => (False.elim (by omega)))
        refine g_iload_n (i := 2) (q := 39) dX7_number_38 rfl rfl rfl ?_
        refine g_swIn (q := 0) (t := 68) dX7_number_39 (by decide) (by decide) rfl (by decide) ?_
        refine g_aload_n (i := 0) (q := 69) dX7_number_68 rfl rfl rfl ?_
        refine g_iload_n (i := 1) (q := 70) dX7_number_69 rfl rfl rfl ?_
        refine g_fnV (as := [zI n]) (q := 73) (u' := 0) dX7_number_70 rfl ck_X7_114 rfl rfl rfl (Nat.le_of_ble_eq_true rfl) (by decide) rfl (by decide) (t_holderOf (S := z_sS S 5 0) hn) rfl ?_
        exact g_ret dX7_number_73 rfl (by decide) (by unfold p_number z_b; (repeat (first | rw [if_pos (by omega)] | rw [if_neg (by omega)])); exact ⟨rfl, rfl⟩)
      · by_cases e : S.1 6 - S.2.1 44 n < 100
        · skip
          refine g_aload_n (i := 0) (q := 1) dX7_number_0 rfl rfl rfl ?_
          refine g_iload_n (i := 1) (q := 2) dX7_number_1 rfl rfl rfl ?_
          refine g_fnS (as := [zI n]) (q := 5) (u' := 0) dX7_number_2 rfl ck_X7_108 rfl rfl (Nat.le_of_ble_eq_true rfl) (by decide) rfl (by decide) (t_isNumber_t hn) rfl ?_
          refine g_if_ne (t := 12) (q := 8) dX7_number_5 (by decide) rfl (fun h5 => ?_) (fun h5 => (False.elim (by omega)))
          refine g_iload_n (i := 2) (q := 13) dX7_number_12 rfl rfl rfl ?_
          refine g_iconst (q := 14) dX7_number_13 rfl ⟨by decide, by decide⟩ ?_
          refine g_iconst (q := 15) dX7_number_14 rfl ⟨by decide, by decide⟩ ?_
          refine g_fnS (as := [zI 1, zI 0, zI 4]) (q := 18) (u' := 0) dX7_number_15 rfl ck_X7_84 rfl rfl (Nat.le_of_ble_eq_true rfl) (by decide) rfl (by decide) (t_in_t (by omega)) rfl ?_
          refine g_if_eq (t := 25) (q := 21) dX7_number_18 (by decide) rfl (fun h18 => (False.elim (by omega))) (fun h18 => ?_)
          refine g_iconst (q := 22) dX7_number_21 rfl ⟨by decide, by decide⟩ ?_
          refine g_goto (q := 0) (t := 26) dX7_number_22 (by decide) ?_
          refine g_put (q := 29) dX7_number_26 rfl fk_X7_80 fp_7_0 rfl rfl ?_
          refine g_aload_n (i := 0) (q := 30) dX7_number_29 rfl rfl rfl ?_
          refine g_getv (q := 33) (z := 0) dX7_number_30 rfl fk_X7_80 rfl rfl rfl ?_
          refine g_if_le (t := 38) (q := 36) dX7_number_33 (by decide) rfl (fun h33 => ?_) (fun h33 => (False.elim (by omega)))
          refine g_iload_n (i := 2) (q := 39) dX7_number_38 rfl rfl rfl ?_
          refine g_swIn (q := 0) (t := 74) dX7_number_39 (by decide) (by decide) rfl (by decide) ?_
          refine g_aload_n (i := 0) (q := 75) dX7_number_74 rfl rfl rfl ?_
          refine g_iload_n (i := 1) (q := 76) dX7_number_75 rfl rfl rfl ?_
          refine g_fnV (as := [zI n]) (q := 79) (u' := 0) dX7_number_76 rfl ck_X7_105 rfl rfl rfl (Nat.le_of_ble_eq_true rfl) (by decide) rfl (by decide) (t_isQuarantined_t (S := z_sS S 5 0) hM hn e) rfl ?_
          refine g_if_eq (t := 86) (q := 82) dX7_number_79 (by decide) rfl (fun h79 => (False.elim (by omega))) (fun h79 => ?_)
          refine g_iconst (q := 83) dX7_number_82 rfl ⟨by decide, by decide⟩ ?_
          refine g_goto (q := 0) (t := 87) dX7_number_83 (by decide) ?_
          exact g_ret dX7_number_87 rfl (by decide) (by unfold p_number z_b; (repeat (first | rw [if_pos (by omega)] | rw [if_neg (by omega)])); exact ⟨rfl, rfl⟩)
        · skip
          refine g_aload_n (i := 0) (q := 1) dX7_number_0 rfl rfl rfl ?_
          refine g_iload_n (i := 1) (q := 2) dX7_number_1 rfl rfl rfl ?_
          refine g_fnS (as := [zI n]) (q := 5) (u' := 0) dX7_number_2 rfl ck_X7_108 rfl rfl (Nat.le_of_ble_eq_true rfl) (by decide) rfl (by decide) (t_isNumber_t hn) rfl ?_
          refine g_if_ne (t := 12) (q := 8) dX7_number_5 (by decide) rfl (fun h5 => ?_) (fun h5 => (False.elim (by omega)))
          refine g_iload_n (i := 2) (q := 13) dX7_number_12 rfl rfl rfl ?_
          refine g_iconst (q := 14) dX7_number_13 rfl ⟨by decide, by decide⟩ ?_
          refine g_iconst (q := 15) dX7_number_14 rfl ⟨by decide, by decide⟩ ?_
          refine g_fnS (as := [zI 1, zI 0, zI 4]) (q := 18) (u' := 0) dX7_number_15 rfl ck_X7_84 rfl rfl (Nat.le_of_ble_eq_true rfl) (by decide) rfl (by decide) (t_in_t (by omega)) rfl ?_
          refine g_if_eq (t := 25) (q := 21) dX7_number_18 (by decide) rfl (fun h18 => (False.elim (by omega))) (fun h18 => ?_)
          refine g_iconst (q := 22) dX7_number_21 rfl ⟨by decide, by decide⟩ ?_
          refine g_goto (q := 0) (t := 26) dX7_number_22 (by decide) ?_
          refine g_put (q := 29) dX7_number_26 rfl fk_X7_80 fp_7_0 rfl rfl ?_
          refine g_aload_n (i := 0) (q := 30) dX7_number_29 rfl rfl rfl ?_
          refine g_getv (q := 33) (z := 0) dX7_number_30 rfl fk_X7_80 rfl rfl rfl ?_
          refine g_if_le (t := 38) (q := 36) dX7_number_33 (by decide) rfl (fun h33 => ?_) (fun h33 => (False.elim (by omega)))
          refine g_iload_n (i := 2) (q := 39) dX7_number_38 rfl rfl rfl ?_
          refine g_swIn (q := 0) (t := 74) dX7_number_39 (by decide) (by decide) rfl (by decide) ?_
          refine g_aload_n (i := 0) (q := 75) dX7_number_74 rfl rfl rfl ?_
          refine g_iload_n (i := 1) (q := 76) dX7_number_75 rfl rfl rfl ?_
          refine g_fnV (as := [zI n]) (q := 79) (u' := 0) dX7_number_76 rfl ck_X7_105 rfl rfl rfl (Nat.le_of_ble_eq_true rfl) (by decide) rfl (by decide) (t_isQuarantined_f (S := z_sS S 5 0) hM hn e) rfl ?_
          refine g_if_eq (t := 86) (q := 82) dX7_number_79 (by decide) rfl (fun h79 => ?_) (fun h79 => (False.elim (by omega)))
          refine g_iconst (q := 87) dX7_number_86 rfl ⟨by decide, by decide⟩ ?_
          exact g_ret dX7_number_87 rfl (by decide) (by unfold p_number z_b; (repeat (first | rw [if_pos (by omega)] | rw [if_neg (by omega)])); exact ⟨rfl, rfl⟩)
      · by_cases e : S.1 6 - S.2.1 45 n < 50
        · skip
          refine g_aload_n (i := 0) (q := 1) dX7_number_0 rfl rfl rfl ?_
          refine g_iload_n (i := 1) (q := 2) dX7_number_1 rfl rfl rfl ?_
          refine g_fnS (as := [zI n]) (q := 5) (u' := 0) dX7_number_2 rfl ck_X7_108 rfl rfl (Nat.le_of_ble_eq_true rfl) (by decide) rfl (by decide) (t_isNumber_t hn) rfl ?_
          refine g_if_ne (t := 12) (q := 8) dX7_number_5 (by decide) rfl (fun h5 => ?_) (fun h5 => (False.elim (by omega)))
          refine g_iload_n (i := 2) (q := 13) dX7_number_12 rfl rfl rfl ?_
          refine g_iconst (q := 14) dX7_number_13 rfl ⟨by decide, by decide⟩ ?_
          refine g_iconst (q := 15) dX7_number_14 rfl ⟨by decide, by decide⟩ ?_
          refine g_fnS (as := [zI 2, zI 0, zI 4]) (q := 18) (u' := 0) dX7_number_15 rfl ck_X7_84 rfl rfl (Nat.le_of_ble_eq_true rfl) (by decide) rfl (by decide) (t_in_t (by omega)) rfl ?_
          refine g_if_eq (t := 25) (q := 21) dX7_number_18 (by decide) rfl (fun h18 => (False.elim (by omega))) (fun h18 => ?_)
          refine g_iconst (q := 22) dX7_number_21 rfl ⟨by decide, by decide⟩ ?_
          refine g_goto (q := 0) (t := 26) dX7_number_22 (by decide) ?_
          refine g_put (q := 29) dX7_number_26 rfl fk_X7_80 fp_7_0 rfl rfl ?_
          refine g_aload_n (i := 0) (q := 30) dX7_number_29 rfl rfl rfl ?_
          refine g_getv (q := 33) (z := 0) dX7_number_30 rfl fk_X7_80 rfl rfl rfl ?_
          refine g_if_le (t := 38) (q := 36) dX7_number_33 (by decide) rfl (fun h33 => ?_) (fun h33 => (False.elim (by omega)))
          refine g_iload_n (i := 2) (q := 39) dX7_number_38 rfl rfl rfl ?_
          refine g_swIn (q := 0) (t := 88) dX7_number_39 (by decide) (by decide) rfl (by decide) ?_
          refine g_aload_n (i := 0) (q := 89) dX7_number_88 rfl rfl rfl ?_
          refine g_iload_n (i := 1) (q := 90) dX7_number_89 rfl rfl rfl ?_
          refine g_fnV (as := [zI n]) (q := 93) (u' := 0) dX7_number_90 rfl ck_X7_126 rfl rfl rfl (Nat.le_of_ble_eq_true rfl) (by decide) rfl (by decide) (t_isSilent_t (S := z_sS S 5 0) hM hn e) rfl ?_
          refine g_if_eq (t := 100) (q := 96) dX7_number_93 (by decide) rfl (fun h93 => (False.elim (by omega))) (fun h93 => ?_)
          refine g_iconst (q := 97) dX7_number_96 rfl ⟨by decide, by decide⟩ ?_
          refine g_goto (q := 0) (t := 101) dX7_number_97 (by decide) ?_
          exact g_ret dX7_number_101 rfl (by decide) (by unfold p_number z_b; (repeat (first | rw [if_pos (by omega)] | rw [if_neg (by omega)])); exact ⟨rfl, rfl⟩)
        · skip
          refine g_aload_n (i := 0) (q := 1) dX7_number_0 rfl rfl rfl ?_
          refine g_iload_n (i := 1) (q := 2) dX7_number_1 rfl rfl rfl ?_
          refine g_fnS (as := [zI n]) (q := 5) (u' := 0) dX7_number_2 rfl ck_X7_108 rfl rfl (Nat.le_of_ble_eq_true rfl) (by decide) rfl (by decide) (t_isNumber_t hn) rfl ?_
          refine g_if_ne (t := 12) (q := 8) dX7_number_5 (by decide) rfl (fun h5 => ?_) (fun h5 => (False.elim (by omega)))
          refine g_iload_n (i := 2) (q := 13) dX7_number_12 rfl rfl rfl ?_
          refine g_iconst (q := 14) dX7_number_13 rfl ⟨by decide, by decide⟩ ?_
          refine g_iconst (q := 15) dX7_number_14 rfl ⟨by decide, by decide⟩ ?_
          refine g_fnS (as := [zI 2, zI 0, zI 4]) (q := 18) (u' := 0) dX7_number_15 rfl ck_X7_84 rfl rfl (Nat.le_of_ble_eq_true rfl) (by decide) rfl (by decide) (t_in_t (by omega)) rfl ?_
          refine g_if_eq (t := 25) (q := 21) dX7_number_18 (by decide) rfl (fun h18 => (False.elim (by omega))) (fun h18 => ?_)
          refine g_iconst (q := 22) dX7_number_21 rfl ⟨by decide, by decide⟩ ?_
          refine g_goto (q := 0) (t := 26) dX7_number_22 (by decide) ?_
          refine g_put (q := 29) dX7_number_26 rfl fk_X7_80 fp_7_0 rfl rfl ?_
          refine g_aload_n (i := 0) (q := 30) dX7_number_29 rfl rfl rfl ?_
          refine g_getv (q := 33) (z := 0) dX7_number_30 rfl fk_X7_80 rfl rfl rfl ?_
          refine g_if_le (t := 38) (q := 36) dX7_number_33 (by decide) rfl (fun h33 => ?_) (fun h33 => (False.elim (by omega)))
          refine g_iload_n (i := 2) (q := 39) dX7_number_38 rfl rfl rfl ?_
          refine g_swIn (q := 0) (t := 88) dX7_number_39 (by decide) (by decide) rfl (by decide) ?_
          refine g_aload_n (i := 0) (q := 89) dX7_number_88 rfl rfl rfl ?_
          refine g_iload_n (i := 1) (q := 90) dX7_number_89 rfl rfl rfl ?_
          refine g_fnV (as := [zI n]) (q := 93) (u' := 0) dX7_number_90 rfl ck_X7_126 rfl rfl rfl (Nat.le_of_ble_eq_true rfl) (by decide) rfl (by decide) (t_isSilent_f (S := z_sS S 5 0) hM hn e) rfl ?_
          refine g_if_eq (t := 100) (q := 96) dX7_number_93 (by decide) rfl (fun h93 => ?_) (fun h93 => (False.elim (by omega)))
          refine g_iconst (q := 101) dX7_number_100 rfl ⟨by decide, by decide⟩ ?_
          exact g_ret dX7_number_101 rfl (by decide) (by unfold p_number z_b; (repeat (first | rw [if_pos (by omega)] | rw [if_neg (by omega)])); exact ⟨rfl, rfl⟩)
      · by_cases e : S.1 6 - S.2.1 46 n ≤ 30
        · skip
          refine g_aload_n (i := 0) (q := 1) dX7_number_0 rfl rfl rfl ?_
          refine g_iload_n (i := 1) (q := 2) dX7_number_1 rfl rfl rfl ?_
          refine g_fnS (as := [zI n]) (q := 5) (u' := 0) dX7_number_2 rfl ck_X7_108 rfl rfl (Nat.le_of_ble_eq_true rfl) (by decide) rfl (by decide) (t_isNumber_t hn) rfl ?_
          refine g_if_ne (t := 12) (q := 8) dX7_number_5 (by decide) rfl (fun h5 => ?_) (fun h5 => (False.elim (by omega)))
          refine g_iload_n (i := 2) (q := 13) dX7_number_12 rfl rfl rfl ?_
          refine g_iconst (q := 14) dX7_number_13 rfl ⟨by decide, by decide⟩ ?_
          refine g_iconst (q := 15) dX7_number_14 rfl ⟨by decide, by decide⟩ ?_
          refine g_fnS (as := [zI 3, zI 0, zI 4]) (q := 18) (u' := 0) dX7_number_15 rfl ck_X7_84 rfl rfl (Nat.le_of_ble_eq_true rfl) (by decide) rfl (by decide) (t_in_t (by omega)) rfl ?_
          refine g_if_eq (t := 25) (q := 21) dX7_number_18 (by decide) rfl (fun h18 => (False.elim (by omega))) (fun h18 => ?_)
          refine g_iconst (q := 22) dX7_number_21 rfl ⟨by decide, by decide⟩ ?_
          refine g_goto (q := 0) (t := 26) dX7_number_22 (by decide) ?_
          refine g_put (q := 29) dX7_number_26 rfl fk_X7_80 fp_7_0 rfl rfl ?_
          refine g_aload_n (i := 0) (q := 30) dX7_number_29 rfl rfl rfl ?_
          refine g_getv (q := 33) (z := 0) dX7_number_30 rfl fk_X7_80 rfl rfl rfl ?_
          refine g_if_le (t := 38) (q := 36) dX7_number_33 (by decide) rfl (fun h33 => ?_) (fun h33 => (False.elim (by omega)))
          refine g_iload_n (i := 2) (q := 39) dX7_number_38 rfl rfl rfl ?_
          refine g_swIn (q := 0) (t := 102) dX7_number_39 (by decide) (by decide) rfl (by decide) ?_
          refine g_aload_n (i := 0) (q := 103) dX7_number_102 rfl rfl rfl ?_
          refine g_iload_n (i := 1) (q := 104) dX7_number_103 rfl rfl rfl ?_
          refine g_fnV (as := [zI n]) (q := 107) (u' := 0) dX7_number_104 rfl ck_X7_153 rfl rfl rfl (Nat.le_of_ble_eq_true rfl) (by decide) rfl (by decide) (t_isCalledBack_t (S := z_sS S 5 0) hM hn e) rfl ?_
          refine g_if_eq (t := 114) (q := 110) dX7_number_107 (by decide) rfl (fun h107 => (False.elim (by omega))) (fun h107 => ?_)
          refine g_iconst (q := 111) dX7_number_110 rfl ⟨by decide, by decide⟩ ?_
          refine g_goto (q := 0) (t := 115) dX7_number_111 (by decide) ?_
          exact g_ret dX7_number_115 rfl (by decide) (by unfold p_number z_b; (repeat (first | rw [if_pos (by omega)] | rw [if_neg (by omega)])); exact ⟨rfl, rfl⟩)
        · skip
          refine g_aload_n (i := 0) (q := 1) dX7_number_0 rfl rfl rfl ?_
          refine g_iload_n (i := 1) (q := 2) dX7_number_1 rfl rfl rfl ?_
          refine g_fnS (as := [zI n]) (q := 5) (u' := 0) dX7_number_2 rfl ck_X7_108 rfl rfl (Nat.le_of_ble_eq_true rfl) (by decide) rfl (by decide) (t_isNumber_t hn) rfl ?_
          refine g_if_ne (t := 12) (q := 8) dX7_number_5 (by decide) rfl (fun h5 => ?_) (fun h5 => (False.elim (by omega)))
          refine g_iload_n (i := 2) (q := 13) dX7_number_12 rfl rfl rfl ?_
          refine g_iconst (q := 14) dX7_number_13 rfl ⟨by decide, by decide⟩ ?_
          refine g_iconst (q := 15) dX7_number_14 rfl ⟨by decide, by decide⟩ ?_
          refine g_fnS (as := [zI 3, zI 0, zI 4]) (q := 18) (u' := 0) dX7_number_15 rfl ck_X7_84 rfl rfl (Nat.le_of_ble_eq_true rfl) (by decide) rfl (by decide) (t_in_t (by omega)) rfl ?_
          refine g_if_eq (t := 25) (q := 21) dX7_number_18 (by decide) rfl (fun h18 => (False.elim (by omega))) (fun h18 => ?_)
          refine g_iconst (q := 22) dX7_number_21 rfl ⟨by decide, by decide⟩ ?_
          refine g_goto (q := 0) (t := 26) dX7_number_22 (by decide) ?_
          refine g_put (q := 29) dX7_number_26 rfl fk_X7_80 fp_7_0 rfl rfl ?_
          refine g_aload_n (i := 0) (q := 30) dX7_number_29 rfl rfl rfl ?_
          refine g_getv (q := 33) (z := 0) dX7_number_30 rfl fk_X7_80 rfl rfl rfl ?_
          refine g_if_le (t := 38) (q := 36) dX7_number_33 (by decide) rfl (fun h33 => ?_) (fun h33 => (False.elim (by omega)))
          refine g_iload_n (i := 2) (q := 39) dX7_number_38 rfl rfl rfl ?_
          refine g_swIn (q := 0) (t := 102) dX7_number_39 (by decide) (by decide) rfl (by decide) ?_
          refine g_aload_n (i := 0) (q := 103) dX7_number_102 rfl rfl rfl ?_
          refine g_iload_n (i := 1) (q := 104) dX7_number_103 rfl rfl rfl ?_
          refine g_fnV (as := [zI n]) (q := 107) (u' := 0) dX7_number_104 rfl ck_X7_153 rfl rfl rfl (Nat.le_of_ble_eq_true rfl) (by decide) rfl (by decide) (t_isCalledBack_f (S := z_sS S 5 0) hM hn e) rfl ?_
          refine g_if_eq (t := 114) (q := 110) dX7_number_107 (by decide) rfl (fun h107 => ?_) (fun h107 => (False.elim (by omega)))
          refine g_iconst (q := 115) dX7_number_114 rfl ⟨by decide, by decide⟩ ?_
          exact g_ret dX7_number_115 rfl (by decide) (by unfold p_number z_b; (repeat (first | rw [if_pos (by omega)] | rw [if_neg (by omega)])); exact ⟨rfl, rfl⟩)
      · skip
        refine g_aload_n (i := 0) (q := 1) dX7_number_0 rfl rfl rfl ?_
        refine g_iload_n (i := 1) (q := 2) dX7_number_1 rfl rfl rfl ?_
        refine g_fnS (as := [zI n]) (q := 5) (u' := 0) dX7_number_2 rfl ck_X7_108 rfl rfl (Nat.le_of_ble_eq_true rfl) (by decide) rfl (by decide) (t_isNumber_t hn) rfl ?_
        refine g_if_ne (t := 12) (q := 8) dX7_number_5 (by decide) rfl (fun h5 => ?_) (fun h5 => (False.elim (by omega)))
        refine g_iload_n (i := 2) (q := 13) dX7_number_12 rfl rfl rfl ?_
        refine g_iconst (q := 14) dX7_number_13 rfl ⟨by decide, by decide⟩ ?_
        refine g_iconst (q := 15) dX7_number_14 rfl ⟨by decide, by decide⟩ ?_
        refine g_fnS (as := [zI 4, zI 0, zI 4]) (q := 18) (u' := 0) dX7_number_15 rfl ck_X7_84 rfl rfl (Nat.le_of_ble_eq_true rfl) (by decide) rfl (by decide) (t_in_t (by omega)) rfl ?_
        refine g_if_eq (t := 25) (q := 21) dX7_number_18 (by decide) rfl (fun h18 => (False.elim (by omega))) (fun h18 => ?_)
        refine g_iconst (q := 22) dX7_number_21 rfl ⟨by decide, by decide⟩ ?_
        refine g_goto (q := 0) (t := 26) dX7_number_22 (by decide) ?_
        refine g_put (q := 29) dX7_number_26 rfl fk_X7_80 fp_7_0 rfl rfl ?_
        refine g_aload_n (i := 0) (q := 30) dX7_number_29 rfl rfl rfl ?_
        refine g_getv (q := 33) (z := 0) dX7_number_30 rfl fk_X7_80 rfl rfl rfl ?_
        refine g_if_le (t := 38) (q := 36) dX7_number_33 (by decide) rfl (fun h33 => ?_) (fun h33 => (False.elim (by omega)))
        refine g_iload_n (i := 2) (q := 39) dX7_number_38 rfl rfl rfl ?_
        refine g_swOut (q := 0) (t := 116) dX7_number_39 (by decide) (by decide) ?_
        refine g_aload_n (i := 0) (q := 117) dX7_number_116 rfl rfl rfl ?_
        refine g_iload_n (i := 1) (q := 118) dX7_number_117 rfl rfl rfl ?_
        refine g_fnV (as := [zI n]) (q := 121) (u' := 0) dX7_number_118 rfl ck_X7_123 rfl rfl rfl (Nat.le_of_ble_eq_true rfl) (by decide) rfl (by decide) (t_waitingFor (S := z_sS S 5 0) hc h60) rfl ?_
        exact g_ret dX7_number_121 rfl (by decide) (by unfold p_number z_b; (repeat (first | rw [if_pos (by omega)] | rw [if_neg (by omega)])); exact ⟨rfl, rfl⟩)
    · skip
      refine g_aload_n (i := 0) (q := 1) dX7_number_0 rfl rfl rfl ?_
      refine g_iload_n (i := 1) (q := 2) dX7_number_1 rfl rfl rfl ?_
      refine g_fnS (as := [zI n]) (q := 5) (u' := 0) dX7_number_2 rfl ck_X7_108 rfl rfl (Nat.le_of_ble_eq_true rfl) (by decide) rfl (by decide) (t_isNumber_t hn) rfl ?_
      refine g_if_ne (t := 12) (q := 8) dX7_number_5 (by decide) rfl (fun h5 => ?_) (fun h5 => (False.elim (by omega)))
      refine g_iload_n (i := 2) (q := 13) dX7_number_12 rfl rfl rfl ?_
      refine g_iconst (q := 14) dX7_number_13 rfl ⟨by decide, by decide⟩ ?_
      refine g_iconst (q := 15) dX7_number_14 rfl ⟨by decide, by decide⟩ ?_
      refine g_fnS (as := [zI w, zI 0, zI 4]) (q := 18) (u' := 0) dX7_number_15 rfl ck_X7_84 rfl rfl (Nat.le_of_ble_eq_true rfl) (by decide) rfl (by decide) (t_in_f (by omega)) rfl ?_
      refine g_if_eq (t := 25) (q := 21) dX7_number_18 (by decide) rfl (fun h18 => ?_) (fun h18 => (False.elim (by omega)))
      refine g_iconst (q := 26) dX7_number_25 rfl ⟨by decide, by decide⟩ ?_
      refine g_put (q := 29) dX7_number_26 rfl fk_X7_80 fp_7_0 rfl rfl ?_
      refine g_aload_n (i := 0) (q := 30) dX7_number_29 rfl rfl rfl ?_
      refine g_getv (q := 33) (z := 2) dX7_number_30 rfl fk_X7_80 rfl rfl rfl ?_
      refine g_if_le (t := 38) (q := 36) dX7_number_33 (by decide) rfl (fun h33 => (False.elim (by omega))) (fun h33 => ?_)
      refine g_iconst (q := 37) dX7_number_36 rfl ⟨by decide, by decide⟩ ?_
      exact g_ret dX7_number_37 rfl (by decide) (by unfold p_number; (repeat (first | rw [if_pos (by omega)] | rw [if_neg (by omega)])); exact ⟨rfl, rfl⟩)
  · skip
    refine g_aload_n (i := 0) (q := 1) dX7_number_0 rfl rfl rfl ?_
    refine g_iload_n (i := 1) (q := 2) dX7_number_1 rfl rfl rfl ?_
    refine g_fnS (as := [zI n]) (q := 5) (u' := 0) dX7_number_2 rfl ck_X7_108 rfl rfl (Nat.le_of_ble_eq_true rfl) (by decide) rfl (by decide) (t_isNumber_f hn) rfl ?_
    refine g_if_ne (t := 12) (q := 8) dX7_number_5 (by decide) rfl (fun h5 => (False.elim (by omega))) (fun h5 => ?_)
    refine g_iconst (q := 9) dX7_number_8 rfl ⟨by decide, by decide⟩ ?_
    refine g_goto (q := 0) (t := 26) dX7_number_9 (by decide) ?_
    refine g_put (q := 29) dX7_number_26 rfl fk_X7_80 fp_7_0 rfl rfl ?_
    refine g_aload_n (i := 0) (q := 30) dX7_number_29 rfl rfl rfl ?_
    refine g_getv (q := 33) (z := 1) dX7_number_30 rfl fk_X7_80 rfl rfl rfl ?_
    refine g_if_le (t := 38) (q := 36) dX7_number_33 (by decide) rfl (fun h33 => (False.elim (by omega))) (fun h33 => ?_)
    refine g_iconst (q := 37) dX7_number_36 rfl ⟨by decide, by decide⟩ ?_
    exact g_ret dX7_number_37 rfl (by decide) (by unfold p_number; (repeat (first | rw [if_pos (by omega)] | rw [if_neg (by omega)])); exact ⟨rfl, rfl⟩)
def p_of (S : zS) (o w : Int) : Int × zS := if ¬ (0 ≤ o ∧ o < S.1 7) then (0, z_sS S 5 1) else if ¬ (0 ≤ w ∧ w < 6) then (0, z_sS S 5 2) else
  (if w = 0 then S.2.1 48 o else if w = 1 then S.2.1 49 o else if w = 2 then S.2.1 50 o else if w = 3 then S.2.1 51 o else if w = 4 then S.2.1 52 o else S.2.1 53 o, z_sS S 5 0)
theorem t_of {S : zS} {o w : Int} (h60 : 0 ≤ S.1 7 ∧ S.1 7 ≤ 60) : z_Ret mX7_of [zR 7, zI o, zI w] S (p_of S o w) := by
  refine z_enter (by decide +kernel) rfl (z_n1 trivial (z_n1 trivial (z_n1 trivial z_n0))) (Nat.le_of_ble_eq_true rfl) ?_
  by_cases ho : 0 ≤ o ∧ o < S.1 7
  · by_cases hw : 0 ≤ w ∧ w < 6
    · have hw5 : w = 0 ∨ w = 1 ∨ w = 2 ∨ w = 3 ∨ w = 4 ∨ w = 5 := by omega
      rcases hw5 with rfl | rfl | rfl | rfl | rfl | rfl
      · skip
        refine g_aload_n (i := 0) (q := 1) dX7_of_0 rfl rfl rfl ?_
        refine g_aload_n (i := 0) (q := 2) dX7_of_1 rfl rfl rfl ?_
        refine g_iload_n (i := 1) (q := 3) dX7_of_2 rfl rfl rfl ?_
        refine g_fnV (as := [zI o]) (q := 6) (u' := 0) dX7_of_3 rfl ck_X7_139 rfl rfl rfl (Nat.le_of_ble_eq_true rfl) (by decide) rfl (by decide) (t_isOrder_t h60 ho) rfl ?_
        refine g_if_ne (t := 13) (q := 9) dX7_of_6 (by decide) rfl (fun h6 => ?_) (fun h6 => (False.elim (by omega)))
        refine g_iload_n (i := 2) (q := 14) dX7_of_13 rfl rfl rfl ?_
        refine g_iconst (q := 15) dX7_of_14 rfl ⟨by decide, by decide⟩ ?_
        refine g_iconst (q := 16) dX7_of_15 rfl ⟨by decide, by decide⟩ ?_
        refine g_fnS (as := [zI 0, zI 0, zI 5]) (q := 19) (u' := 0) dX7_of_16 rfl ck_X7_84 rfl rfl (Nat.le_of_ble_eq_true rfl) (by decide) rfl (by decide) (t_in_t (by omega)) rfl ?_
        refine g_if_eq (t := 26) (q := 22) dX7_of_19 (by decide) rfl (fun h19 => (False.elim (by omega))) (fun h19 => ?_)
        refine g_iconst (q := 23) dX7_of_22 rfl ⟨by decide, by decide⟩ ?_
        refine g_goto (q := 0) (t := 27) dX7_of_23 (by decide) ?_
        refine g_put (q := 30) dX7_of_27 rfl fk_X7_80 fp_7_0 rfl rfl ?_
        refine g_aload_n (i := 0) (q := 31) dX7_of_30 rfl rfl rfl ?_
        refine g_getv (q := 34) (z := 0) dX7_of_31 rfl fk_X7_80 rfl rfl rfl ?_
        refine g_if_le (t := 39) (q := 37) dX7_of_34 (by decide) rfl (fun h34 => ?_) (fun h34 => (False.elim (by omega)))
        refine g_iload_n (i := 2) (q := 40) dX7_of_39 rfl rfl rfl ?_
        refine g_swIn (q := 0) (t := 76) dX7_of_40 (by decide) (by decide) rfl (by decide) ?_
        refine g_aload_n (i := 0) (q := 77) dX7_of_76 rfl rfl rfl ?_
        refine g_getr (q := 80) dX7_of_77 rfl fk_X7_35 rfl rfl ?_
        refine g_iload_n (i := 1) (q := 81) dX7_of_80 rfl rfl rfl ?_
        refine g_ildv (q := 82) (z := S.2.1 48 o) dX7_of_81 rfl ⟨by decide, rfl, rfl⟩ (by omega) (by omega) rfl ?_
        exact g_ret dX7_of_82 rfl (by decide) (by unfold p_of; (repeat (first | rw [if_pos (by omega)] | rw [if_neg (by omega)])); exact ⟨rfl, rfl⟩)
      · skip
        refine g_aload_n (i := 0) (q := 1) dX7_of_0 rfl rfl rfl ?_
        refine g_aload_n (i := 0) (q := 2) dX7_of_1 rfl rfl rfl ?_
        refine g_iload_n (i := 1) (q := 3) dX7_of_2 rfl rfl rfl ?_
        refine g_fnV (as := [zI o]) (q := 6) (u' := 0) dX7_of_3 rfl ck_X7_139 rfl rfl rfl (Nat.le_of_ble_eq_true rfl) (by decide) rfl (by decide) (t_isOrder_t h60 ho) rfl ?_
        refine g_if_ne (t := 13) (q := 9) dX7_of_6 (by decide) rfl (fun h6 => ?_) (fun h6 => (False.elim (by omega)))
        refine g_iload_n (i := 2) (q := 14) dX7_of_13 rfl rfl rfl ?_
        refine g_iconst (q := 15) dX7_of_14 rfl ⟨by decide, by decide⟩ ?_
        refine g_iconst (q := 16) dX7_of_15 rfl ⟨by decide, by decide⟩ ?_
        refine g_fnS (as := [zI 1, zI 0, zI 5]) (q := 19) (u' := 0) dX7_of_16 rfl ck_X7_84 rfl rfl (Nat.le_of_ble_eq_true rfl) (by decide) rfl (by decide) (t_in_t (by omega)) rfl ?_
        refine g_if_eq (t := 26) (q := 22) dX7_of_19 (by decide) rfl (fun h19 => (False.elim (by omega))) (fun h19 => ?_)
        refine g_iconst (q := 23) dX7_of_22 rfl ⟨by decide, by decide⟩ ?_
        refine g_goto (q := 0) (t := 27) dX7_of_23 (by decide) ?_
        refine g_put (q := 30) dX7_of_27 rfl fk_X7_80 fp_7_0 rfl rfl ?_
        refine g_aload_n (i := 0) (q := 31) dX7_of_30 rfl rfl rfl ?_
        refine g_getv (q := 34) (z := 0) dX7_of_31 rfl fk_X7_80 rfl rfl rfl ?_
        refine g_if_le (t := 39) (q := 37) dX7_of_34 (by decide) rfl (fun h34 => ?_) (fun h34 => (False.elim (by omega)))
        refine g_iload_n (i := 2) (q := 40) dX7_of_39 rfl rfl rfl ?_
        refine g_swIn (q := 0) (t := 83) dX7_of_40 (by decide) (by decide) rfl (by decide) ?_
        refine g_aload_n (i := 0) (q := 84) dX7_of_83 rfl rfl rfl ?_
        refine g_getr (q := 87) dX7_of_84 rfl fk_X7_38 rfl rfl ?_
        refine g_iload_n (i := 1) (q := 88) dX7_of_87 rfl rfl rfl ?_
        refine g_ildv (q := 89) (z := S.2.1 49 o) dX7_of_88 rfl ⟨by decide, rfl, rfl⟩ (by omega) (by omega) rfl ?_
        exact g_ret dX7_of_89 rfl (by decide) (by unfold p_of; (repeat (first | rw [if_pos (by omega)] | rw [if_neg (by omega)])); exact ⟨rfl, rfl⟩)
      · skip
        refine g_aload_n (i := 0) (q := 1) dX7_of_0 rfl rfl rfl ?_
        refine g_aload_n (i := 0) (q := 2) dX7_of_1 rfl rfl rfl ?_
        refine g_iload_n (i := 1) (q := 3) dX7_of_2 rfl rfl rfl ?_
        refine g_fnV (as := [zI o]) (q := 6) (u' := 0) dX7_of_3 rfl ck_X7_139 rfl rfl rfl (Nat.le_of_ble_eq_true rfl) (by decide) rfl (by decide) (t_isOrder_t h60 ho) rfl ?_
        refine g_if_ne (t := 13) (q := 9) dX7_of_6 (by decide) rfl (fun h6 => ?_) (fun h6 => (False.elim (by omega)))
        refine g_iload_n (i := 2) (q := 14) dX7_of_13 rfl rfl rfl ?_
        refine g_iconst (q := 15) dX7_of_14 rfl ⟨by decide, by decide⟩ ?_
        refine g_iconst (q := 16) dX7_of_15 rfl ⟨by decide, by decide⟩ ?_
        refine g_fnS (as := [zI 2, zI 0, zI 5]) (q := 19) (u' := 0) dX7_of_16 rfl ck_X7_84 rfl rfl (Nat.le_of_ble_eq_true rfl) (by decide) rfl (by decide) (t_in_t (by omega)) rfl ?_
        refine g_if_eq (t := 26) (q := 22) dX7_of_19 (by decide) rfl (fun h19 => (False.elim (by omega))) (fun h19 => ?_)
        refine g_iconst (q := 23) dX7_of_22 rfl ⟨by decide, by decide⟩ ?_
        refine g_goto (q := 0) (t := 27) dX7_of_23 (by decide) ?_
        refine g_put (q := 30) dX7_of_27 rfl fk_X7_80 fp_7_0 rfl rfl ?_
        refine g_aload_n (i := 0) (q := 31) dX7_of_30 rfl rfl rfl ?_
        refine g_getv (q := 34) (z := 0) dX7_of_31 rfl fk_X7_80 rfl rfl rfl ?_
        refine g_if_le (t := 39) (q := 37) dX7_of_34 (by decide) rfl (fun h34 => ?_) (fun h34 => (False.elim (by omega)))
        refine g_iload_n (i := 2) (q := 40) dX7_of_39 rfl rfl rfl ?_
        refine g_swIn (q := 0) (t := 90) dX7_of_40 (by decide) (by decide) rfl (by decide) ?_
        refine g_aload_n (i := 0) (q := 91) dX7_of_90 rfl rfl rfl ?_
        refine g_getr (q := 94) dX7_of_91 rfl fk_X7_41 rfl rfl ?_
        refine g_iload_n (i := 1) (q := 95) dX7_of_94 rfl rfl rfl ?_
        refine g_ildv (q := 96) (z := S.2.1 50 o) dX7_of_95 rfl ⟨by decide, rfl, rfl⟩ (by omega) (by omega) rfl ?_
        exact g_ret dX7_of_96 rfl (by decide) (by unfold p_of; (repeat (first | rw [if_pos (by omega)] | rw [if_neg (by omega)])); exact ⟨rfl, rfl⟩)
      · skip
        refine g_aload_n (i := 0) (q := 1) dX7_of_0 rfl rfl rfl ?_
        refine g_aload_n (i := 0) (q := 2) dX7_of_1 rfl rfl rfl ?_
        refine g_iload_n (i := 1) (q := 3) dX7_of_2 rfl rfl rfl ?_
        refine g_fnV (as := [zI o]) (q := 6) (u' := 0) dX7_of_3 rfl ck_X7_139 rfl rfl rfl (Nat.le_of_ble_eq_true rfl) (by decide) rfl (by decide) (t_isOrder_t h60 ho) rfl ?_
        refine g_if_ne (t := 13) (q := 9) dX7_of_6 (by decide) rfl (fun h6 => ?_) (fun h6 => (False.elim (by omega)))
        refine g_iload_n (i := 2) (q := 14) dX7_of_13 rfl rfl rfl ?_
        refine g_iconst (q := 15) dX7_of_14 rfl ⟨by decide, by decide⟩ ?_
        refine g_iconst (q := 16) dX7_of_15 rfl ⟨by decide, by decide⟩ ?_
        refine g_fnS (as := [zI 3, zI 0, zI 5]) (q := 19) (u' := 0) dX7_of_16 rfl ck_X7_84 rfl rfl (Nat.le_of_ble_eq_true rfl) (by decide) rfl (by decide) (t_in_t (by omega)) rfl ?_
        refine g_if_eq (t := 26) (q := 22) dX7_of_19 (by decide) rfl (fun h19 => (False.elim (by omega))) (fun h19 => ?_)
        refine g_iconst (q := 23) dX7_of_22 rfl ⟨by decide, by decide⟩ ?_
        refine g_goto (q := 0) (t := 27) dX7_of_23 (by decide) ?_
        refine g_put (q := 30) dX7_of_27 rfl fk_X7_80 fp_7_0 rfl rfl ?_
        refine g_aload_n (i := 0) (q := 31) dX7_of_30 rfl rfl rfl ?_
        refine g_getv (q := 34) (z := 0) dX7_of_31 rfl fk_X7_80 rfl rfl rfl ?_
        refine g_if_le (t := 39) (q := 37) dX7_of_34 (by decide) rfl (fun h34 => ?_) (fun h34 => (False.elim (by omega)))
        refine g_iload_n (i := 2) (q := 40) dX7_of_39 rfl rfl rfl ?_
        refine g_swIn (q := 0) (t := 97) dX7_of_40 (by decide) (by decide) rfl (by decide) ?_
        refine g_aload_n (i := 0) (q := 98) dX7_of_97 rfl rfl rfl ?_
        refine g_getr (q := 101) dX7_of_98 rfl fk_X7_44 rfl rfl ?_
        refine g_iload_n (i := 1) (q := 102) dX7_of_101 rfl rfl rfl ?_
        refine g_ildv (q := 103) (z := S.2.1 51 o) dX7_of_102 rfl ⟨by decide, rfl, rfl⟩ (by omega) (by omega) rfl ?_
        exact g_ret dX7_of_103 rfl (by decide) (by unfold p_of; (repeat (first | rw [if_pos (by omega)] | rw [if_neg (by omega)])); exact ⟨rfl, rfl⟩)
      · skip
        refine g_aload_n (i := 0) (q := 1) dX7_of_0 rfl rfl rfl ?_
        refine g_aload_n (i := 0) (q := 2) dX7_of_1 rfl rfl rfl ?_
        refine g_iload_n (i := 1) (q := 3) dX7_of_2 rfl rfl rfl ?_
        refine g_fnV (as := [zI o]) (q := 6) (u' := 0) dX7_of_3 rfl ck_X7_139 rfl rfl rfl (Nat.le_of_ble_eq_true rfl) (by decide) rfl (by decide) (t_isOrder_t h60 ho) rfl ?_
        refine g_if_ne (t := 13) (q := 9) dX7_of_6 (by decide) rfl (fun h6 => ?_) (fun h6 => (False.elim (by omega)))
        refine g_iload_n (i := 2) (q := 14) dX7_of_13 rfl rfl rfl ?_
        refine g_iconst (q := 15) dX7_of_14 rfl ⟨by decide, by decide⟩ ?_
        refine g_iconst (q := 16) dX7_of_15 rfl ⟨by decide, by decide⟩ ?_
        refine g_fnS (as := [zI 4, zI 0, zI 5]) (q := 19) (u' := 0) dX7_of_16 rfl ck_X7_84 rfl rfl (Nat.le_of_ble_eq_true rfl) (by decide) rfl (by decide) (t_in_t (by omega)) rfl ?_
        refine g_if_eq (t := 26) (q := 22) dX7_of_19 (by decide) rfl (fun h19 => (False.elim (by omega))) (fun h19 => ?_)
        refine g_iconst (q := 23) dX7_of_22 rfl ⟨by decide, by decide⟩ ?_
        refine g_goto (q := 0) (t := 27) dX7_of_23 (by decide) ?_
        refine g_put (q := 30) dX7_of_27 rfl fk_X7_80 fp_7_0 rfl rfl ?_
        refine g_aload_n (i := 0) (q := 31) dX7_of_30 rfl rfl rfl ?_
        refine g_getv (q := 34) (z := 0) dX7_of_31 rfl fk_X7_80 rfl rfl rfl ?_
        refine g_if_le (t := 39) (q := 37) dX7_of_34 (by decide) rfl (fun h34 => ?_) (fun h34 => (False.elim (by omega)))
        refine g_iload_n (i := 2) (q := 40) dX7_of_39 rfl rfl rfl ?_
        refine g_swIn (q := 0) (t := 104) dX7_of_40 (by decide) (by decide) rfl (by decide) ?_
        refine g_aload_n (i := 0) (q := 105) dX7_of_104 rfl rfl rfl ?_
        refine g_getr (q := 108) dX7_of_105 rfl fk_X7_47 rfl rfl ?_
        refine g_iload_n (i := 1) (q := 109) dX7_of_108 rfl rfl rfl ?_
        refine g_ildv (q := 110) (z := S.2.1 52 o) dX7_of_109 rfl ⟨by decide, rfl, rfl⟩ (by omega) (by omega) rfl ?_
        exact g_ret dX7_of_110 rfl (by decide) (by unfold p_of; (repeat (first | rw [if_pos (by omega)] | rw [if_neg (by omega)])); exact ⟨rfl, rfl⟩)
      · skip
        refine g_aload_n (i := 0) (q := 1) dX7_of_0 rfl rfl rfl ?_
        refine g_aload_n (i := 0) (q := 2) dX7_of_1 rfl rfl rfl ?_
        refine g_iload_n (i := 1) (q := 3) dX7_of_2 rfl rfl rfl ?_
        refine g_fnV (as := [zI o]) (q := 6) (u' := 0) dX7_of_3 rfl ck_X7_139 rfl rfl rfl (Nat.le_of_ble_eq_true rfl) (by decide) rfl (by decide) (t_isOrder_t h60 ho) rfl ?_
        refine g_if_ne (t := 13) (q := 9) dX7_of_6 (by decide) rfl (fun h6 => ?_) (fun h6 => (False.elim (by omega)))
        refine g_iload_n (i := 2) (q := 14) dX7_of_13 rfl rfl rfl ?_
        refine g_iconst (q := 15) dX7_of_14 rfl ⟨by decide, by decide⟩ ?_
        refine g_iconst (q := 16) dX7_of_15 rfl ⟨by decide, by decide⟩ ?_
        refine g_fnS (as := [zI 5, zI 0, zI 5]) (q := 19) (u' := 0) dX7_of_16 rfl ck_X7_84 rfl rfl (Nat.le_of_ble_eq_true rfl) (by decide) rfl (by decide) (t_in_t (by omega)) rfl ?_
        refine g_if_eq (t := 26) (q := 22) dX7_of_19 (by decide) rfl (fun h19 => (False.elim (by omega))) (fun h19 => ?_)
        refine g_iconst (q := 23) dX7_of_22 rfl ⟨by decide, by decide⟩ ?_
        refine g_goto (q := 0) (t := 27) dX7_of_23 (by decide) ?_
        refine g_put (q := 30) dX7_of_27 rfl fk_X7_80 fp_7_0 rfl rfl ?_
        refine g_aload_n (i := 0) (q := 31) dX7_of_30 rfl rfl rfl ?_
        refine g_getv (q := 34) (z := 0) dX7_of_31 rfl fk_X7_80 rfl rfl rfl ?_
        refine g_if_le (t := 39) (q := 37) dX7_of_34 (by decide) rfl (fun h34 => ?_) (fun h34 => (False.elim (by omega)))
        refine g_iload_n (i := 2) (q := 40) dX7_of_39 rfl rfl rfl ?_
        refine g_swOut (q := 0) (t := 111) dX7_of_40 (by decide) (by decide) ?_
        refine g_aload_n (i := 0) (q := 112) dX7_of_111 rfl rfl rfl ?_
        refine g_getr (q := 115) dX7_of_112 rfl fk_X7_50 rfl rfl ?_
        refine g_iload_n (i := 1) (q := 116) dX7_of_115 rfl rfl rfl ?_
        refine g_ildv (q := 117) (z := S.2.1 53 o) dX7_of_116 rfl ⟨by decide, rfl, rfl⟩ (by omega) (by omega) rfl ?_
        exact g_ret dX7_of_117 rfl (by decide) (by unfold p_of; (repeat (first | rw [if_pos (by omega)] | rw [if_neg (by omega)])); exact ⟨rfl, rfl⟩)
    · skip
      refine g_aload_n (i := 0) (q := 1) dX7_of_0 rfl rfl rfl ?_
      refine g_aload_n (i := 0) (q := 2) dX7_of_1 rfl rfl rfl ?_
      refine g_iload_n (i := 1) (q := 3) dX7_of_2 rfl rfl rfl ?_
      refine g_fnV (as := [zI o]) (q := 6) (u' := 0) dX7_of_3 rfl ck_X7_139 rfl rfl rfl (Nat.le_of_ble_eq_true rfl) (by decide) rfl (by decide) (t_isOrder_t h60 ho) rfl ?_
      refine g_if_ne (t := 13) (q := 9) dX7_of_6 (by decide) rfl (fun h6 => ?_) (fun h6 => (False.elim (by omega)))
      refine g_iload_n (i := 2) (q := 14) dX7_of_13 rfl rfl rfl ?_
      refine g_iconst (q := 15) dX7_of_14 rfl ⟨by decide, by decide⟩ ?_
      refine g_iconst (q := 16) dX7_of_15 rfl ⟨by decide, by decide⟩ ?_
      refine g_fnS (as := [zI w, zI 0, zI 5]) (q := 19) (u' := 0) dX7_of_16 rfl ck_X7_84 rfl rfl (Nat.le_of_ble_eq_true rfl) (by decide) rfl (by decide) (t_in_f (by omega)) rfl ?_
      refine g_if_eq (t := 26) (q := 22) dX7_of_19 (by decide) rfl (fun h19 => ?_) (fun h19 => (False.elim (by omega)))
      refine g_iconst (q := 27) dX7_of_26 rfl ⟨by decide, by decide⟩ ?_
      refine g_put (q := 30) dX7_of_27 rfl fk_X7_80 fp_7_0 rfl rfl ?_
      refine g_aload_n (i := 0) (q := 31) dX7_of_30 rfl rfl rfl ?_
      refine g_getv (q := 34) (z := 2) dX7_of_31 rfl fk_X7_80 rfl rfl rfl ?_
      refine g_if_le (t := 39) (q := 37) dX7_of_34 (by decide) rfl (fun h34 => (False.elim (by omega))) (fun h34 => ?_)
      refine g_iconst (q := 38) dX7_of_37 rfl ⟨by decide, by decide⟩ ?_
      exact g_ret dX7_of_38 rfl (by decide) (by unfold p_of; (repeat (first | rw [if_pos (by omega)] | rw [if_neg (by omega)])); exact ⟨rfl, rfl⟩)
  · skip
    refine g_aload_n (i := 0) (q := 1) dX7_of_0 rfl rfl rfl ?_
    refine g_aload_n (i := 0) (q := 2) dX7_of_1 rfl rfl rfl ?_
    refine g_iload_n (i := 1) (q := 3) dX7_of_2 rfl rfl rfl ?_
    refine g_fnV (as := [zI o]) (q := 6) (u' := 0) dX7_of_3 rfl ck_X7_139 rfl rfl rfl (Nat.le_of_ble_eq_true rfl) (by decide) rfl (by decide) (t_isOrder_f h60 ho) rfl ?_
    refine g_if_ne (t := 13) (q := 9) dX7_of_6 (by decide) rfl (fun h6 => (False.elim (by omega))) (fun h6 => ?_)
    refine g_iconst (q := 10) dX7_of_9 rfl ⟨by decide, by decide⟩ ?_
    refine g_goto (q := 0) (t := 27) dX7_of_10 (by decide) ?_
    refine g_put (q := 30) dX7_of_27 rfl fk_X7_80 fp_7_0 rfl rfl ?_
    refine g_aload_n (i := 0) (q := 31) dX7_of_30 rfl rfl rfl ?_
    refine g_getv (q := 34) (z := 1) dX7_of_31 rfl fk_X7_80 rfl rfl rfl ?_
    refine g_if_le (t := 39) (q := 37) dX7_of_34 (by decide) rfl (fun h34 => (False.elim (by omega))) (fun h34 => ?_)
    refine g_iconst (q := 38) dX7_of_37 rfl ⟨by decide, by decide⟩ ?_
    exact g_ret dX7_of_38 rfl (by decide) (by unfold p_of; (repeat (first | rw [if_pos (by omega)] | rw [if_neg (by omega)])); exact ⟨rfl, rfl⟩)
def p_room (S : zS) (c : Nat) (m : Int) : Int × zS := if ¬ (0 ≤ m ∧ m ≤ 10999) then (0, z_sS S 5 1) else if ¬ m % 100 < 20 ∨ m ≤ S.1 6 then (0, z_sS S 5 0) else (3 - y_cwa (z_sS S 5 0) m c, z_sS S 5 0)
theorem t_room {S : zS} {m : Int} {c : Nat} (hc : S.1 7 = c) (h60 : c ≤ 60) : z_Ret mX7_room [zR 7, zI m] S (p_room S c m) := by
  have hle := y_cwa_le (z_sS S 5 0) m c
  refine z_enter (by decide +kernel) rfl (z_n1 trivial (z_n1 trivial z_n0)) (Nat.le_of_ble_eq_true rfl) ?_
  refine g_aload_n (i := 0) (q := 1) dX7_room_0 rfl rfl rfl ?_
  refine g_iload_n (i := 1) (q := 2) dX7_room_1 rfl rfl rfl ?_
  refine g_iconst (q := 3) dX7_room_2 rfl ⟨by decide, by decide⟩ ?_
  refine g_sipush (q := 6) dX7_room_3 rfl ⟨by decide, by decide⟩ (by decide) ?_
  by_cases c6 : 0 ≤ m ∧ m ≤ 10999
  · refine g_fnS (as := [zI m, zI 0, zI 10999]) (q := 9) (u' := 0) dX7_room_6 rfl ck_X7_84 rfl rfl (Nat.le_of_ble_eq_true rfl) (by decide) rfl (by decide) (t_in_t c6) rfl ?_
    refine g_if_eq (t := 16) (q := 12) dX7_room_9 (by decide) rfl (fun h9 => (False.elim (by omega))) (fun h9 => ?_)
    refine g_iconst (q := 13) dX7_room_12 rfl ⟨by decide, by decide⟩ ?_
    refine g_goto (q := 0) (t := 17) dX7_room_13 (by decide) ?_
    refine g_put (q := 20) dX7_room_17 rfl fk_X7_80 fp_7_0 rfl rfl ?_
    refine g_aload_n (i := 0) (q := 21) dX7_room_20 rfl rfl rfl ?_
    refine g_getv (q := 24) (z := 0) dX7_room_21 rfl fk_X7_80 rfl rfl rfl ?_
    refine g_if_gt (t := 42) (q := 27) dX7_room_24 (by decide) rfl (fun h24 => (False.elim (by omega))) (fun h24 => ?_)
    refine g_iload_n (i := 1) (q := 28) dX7_room_27 rfl rfl rfl ?_
    by_cases c28 : m % 100 < 20
    · refine g_fnS (as := [zI m]) (q := 31) (u' := 0) dX7_room_28 rfl ck_X7_129 rfl rfl (Nat.le_of_ble_eq_true rfl) (by decide) rfl (by decide) (t_isWindow_t (by omega) c28) rfl ?_
      refine g_if_eq (t := 42) (q := 34) dX7_room_31 (by decide) rfl (fun h31 => (False.elim (by omega))) (fun h31 => ?_)
      refine g_iload_n (i := 1) (q := 35) dX7_room_34 rfl rfl rfl ?_
      refine g_aload_n (i := 0) (q := 36) dX7_room_35 rfl rfl rfl ?_
      refine g_getv (q := 39) (z := S.1 6) dX7_room_36 rfl fk_X7_91 rfl rfl rfl ?_
      refine g_icmp_gt (t := 46) (q := 42) dX7_room_39 (by decide) rfl (fun h39 => ?_) (fun h39 => ?_)
      · refine g_iconst (q := 47) dX7_room_46 rfl ⟨by decide, by decide⟩ ?_
        refine g_aload_n (i := 0) (q := 48) dX7_room_47 rfl rfl rfl ?_
        refine g_iload_n (i := 1) (q := 49) dX7_room_48 rfl rfl rfl ?_
        refine g_fnV (as := [zI m]) (q := 52) (u' := 0) dX7_room_49 rfl ck_X7_132 rfl rfl rfl (Nat.le_of_ble_eq_true rfl) (by decide) rfl (by decide) (t_waitingAt (S := z_sS S 5 0) hc h60) rfl ?_
        refine g_isub (q := 53) dX7_room_52 rfl (by constructor <;> omega) ?_
        exact g_ret dX7_room_53 rfl (by decide) (by unfold p_room; (repeat (first | rw [if_pos (by omega)] | rw [if_neg (by omega)])); exact ⟨rfl, rfl⟩)
      · refine g_iconst (q := 43) dX7_room_42 rfl ⟨by decide, by decide⟩ ?_
        refine g_goto (q := 0) (t := 53) dX7_room_43 (by decide) ?_
        exact g_ret dX7_room_53 rfl (by decide) (by unfold p_room; (repeat (first | rw [if_pos (by omega)] | rw [if_neg (by omega)])); exact ⟨rfl, rfl⟩)
    · refine g_fnS (as := [zI m]) (q := 31) (u' := 0) dX7_room_28 rfl ck_X7_129 rfl rfl (Nat.le_of_ble_eq_true rfl) (by decide) rfl (by decide) (t_isWindow_f (by omega) c28) rfl ?_
      refine g_if_eq (t := 42) (q := 34) dX7_room_31 (by decide) rfl (fun h31 => ?_) (fun h31 => (False.elim (by omega)))
      refine g_iconst (q := 43) dX7_room_42 rfl ⟨by decide, by decide⟩ ?_
      refine g_goto (q := 0) (t := 53) dX7_room_43 (by decide) ?_
      exact g_ret dX7_room_53 rfl (by decide) (by unfold p_room; (repeat (first | rw [if_pos (by omega)] | rw [if_neg (by omega)])); exact ⟨rfl, rfl⟩)
  · refine g_fnS (as := [zI m, zI 0, zI 10999]) (q := 9) (u' := 0) dX7_room_6 rfl ck_X7_84 rfl rfl (Nat.le_of_ble_eq_true rfl) (by decide) rfl (by decide) (t_in_f c6) rfl ?_
    refine g_if_eq (t := 16) (q := 12) dX7_room_9 (by decide) rfl (fun h9 => ?_) (fun h9 => (False.elim (by omega)))
    refine g_iconst (q := 17) dX7_room_16 rfl ⟨by decide, by decide⟩ ?_
    refine g_put (q := 20) dX7_room_17 rfl fk_X7_80 fp_7_0 rfl rfl ?_
    refine g_aload_n (i := 0) (q := 21) dX7_room_20 rfl rfl rfl ?_
    refine g_getv (q := 24) (z := 1) dX7_room_21 rfl fk_X7_80 rfl rfl rfl ?_
    refine g_if_gt (t := 42) (q := 27) dX7_room_24 (by decide) rfl (fun h24 => ?_) (fun h24 => (False.elim (by omega)))
    refine g_iconst (q := 43) dX7_room_42 rfl ⟨by decide, by decide⟩ ?_
    refine g_goto (q := 0) (t := 53) dX7_room_43 (by decide) ?_
    exact g_ret dX7_room_53 rfl (by decide) (by unfold p_room; (repeat (first | rw [if_pos (by omega)] | rw [if_neg (by omega)])); exact ⟨rfl, rfl⟩)
def p_firm (S : zS) (f w : Int) : Int × zS := if ¬ (0 ≤ f ∧ f < 6) then (0, z_sS S 5 1) else if ¬ (0 ≤ w ∧ w < 7) then (0, z_sS S 5 2) else
  (if w = 0 then S.2.1 41 f else if w = 1 then y_bo (z_sS S 5 0) f 20 else if w = 2 then y_sb (z_sS S 5 0) f 200 else if w = 3 then S.2.1 60 f else if w = 4 then S.2.1 59 f else if w = 5 then S.2.1 61 f else S.1 8 - S.2.1 58 f, z_sS S 5 0)
theorem t_firm {S : zS} {f w : Int} (h8 : S.1 8 ≤ 4000) (hk : ∀ f : Int, 0 ≤ f → f < 6 → (0 ≤ S.2.1 58 f ∧ S.2.1 58 f ≤ S.1 8) ∧ (S.2.1 41 f = 0 ∨ S.2.1 41 f = 1) ∧ (S.2.1 60 f = 0 ∨ S.2.1 60 f = 1)) : z_Ret mX7_firm [zR 7, zI f, zI w] S (p_firm S f w) := by
  have hkf := hk f
  refine z_enter (by decide +kernel) rfl (z_n1 trivial (z_n1 trivial (z_n1 trivial z_n0))) (Nat.le_of_ble_eq_true rfl) ?_
  by_cases hf : 0 ≤ f ∧ f < 6
  · obtain ⟨k1, k2, k3⟩ := hkf hf.1 hf.2
    by_cases hw : 0 ≤ w ∧ w < 7
    · have hw5 : w = 0 ∨ w = 1 ∨ w = 2 ∨ w = 3 ∨ w = 4 ∨ w = 5 ∨ w = 6 := by omega
      rcases hw5 with rfl | rfl | rfl | rfl | rfl | rfl | rfl
      · rcases k2 with e | e
        · skip
          refine g_aload_n (i := 0) (q := 1) dX7_firm_0 rfl rfl rfl ?_
          refine g_iload_n (i := 1) (q := 2) dX7_firm_1 rfl rfl rfl ?_
          refine g_fnS (as := [zI f]) (q := 5) (u' := 0) dX7_firm_2 rfl ck_X7_98 rfl rfl (Nat.le_of_ble_eq_true rfl) (by decide) rfl (by decide) (t_isFirm_t hf) rfl ?_
          refine g_if_ne (t := 12) (q := 8) dX7_firm_5 (by decide) rfl (fun h5 => ?_) (fun h5 => (False.elim (by omega)))
          refine g_iload_n (i := 2) (q := 13) dX7_firm_12 rfl rfl rfl ?_
          refine g_iconst (q := 14) dX7_firm_13 rfl ⟨by decide, by decide⟩ ?_
          refine g_bipush (q := 16) dX7_firm_14 rfl ⟨by decide, by decide⟩ (by decide) ?_
          refine g_fnS (as := [zI 0, zI 0, zI 6]) (q := 19) (u' := 0) dX7_firm_16 rfl ck_X7_84 rfl rfl (Nat.le_of_ble_eq_true rfl) (by decide) rfl (by decide) (t_in_t (by omega)) rfl ?_
          refine g_if_eq (t := 26) (q := 22) dX7_firm_19 (by decide) rfl (fun h19 => (False.elim (by omega))) (fun h19 => ?_)
          refine g_iconst (q := 23) dX7_firm_22 rfl ⟨by decide, by decide⟩ ?_
          refine g_goto (q := 0) (t := 27) dX7_firm_23 (by decide) ?_
          refine g_put (q := 30) dX7_firm_27 rfl fk_X7_80 fp_7_0 rfl rfl ?_
          refine g_aload_n (i := 0) (q := 31) dX7_firm_30 rfl rfl rfl ?_
          refine g_getv (q := 34) (z := 0) dX7_firm_31 rfl fk_X7_80 rfl rfl rfl ?_
          refine g_if_le (t := 39) (q := 37) dX7_firm_34 (by decide) rfl (fun h34 => ?_) (fun h34 => (False.elim (by omega)))
          refine g_iload_n (i := 2) (q := 40) dX7_firm_39 rfl rfl rfl ?_
          refine g_swIn (q := 0) (t := 80) dX7_firm_40 (by decide) (by decide) rfl (by decide) ?_
          refine g_aload_n (i := 0) (q := 81) dX7_firm_80 rfl rfl rfl ?_
          refine g_getr (q := 84) dX7_firm_81 rfl fk_X7_13 rfl rfl ?_
          refine g_iload_n (i := 1) (q := 85) dX7_firm_84 rfl rfl rfl ?_
          refine g_zldv (q := 86) (z := S.2.1 41 f) dX7_firm_85 rfl ⟨by decide, rfl, rfl⟩ (by omega) (by omega) rfl ?_
          refine g_if_eq (t := 93) (q := 89) dX7_firm_86 (by decide) rfl (fun h86 => ?_) (fun h86 => (False.elim (by omega)))
          refine g_iconst (q := 94) dX7_firm_93 rfl ⟨by decide, by decide⟩ ?_
          exact g_ret dX7_firm_94 rfl (by decide) (by unfold p_firm; (repeat (first | rw [if_pos (by omega)] | rw [if_neg (by omega)])); rw [e]; exact ⟨rfl, rfl⟩)
        · skip
          refine g_aload_n (i := 0) (q := 1) dX7_firm_0 rfl rfl rfl ?_
          refine g_iload_n (i := 1) (q := 2) dX7_firm_1 rfl rfl rfl ?_
          refine g_fnS (as := [zI f]) (q := 5) (u' := 0) dX7_firm_2 rfl ck_X7_98 rfl rfl (Nat.le_of_ble_eq_true rfl) (by decide) rfl (by decide) (t_isFirm_t hf) rfl ?_
          refine g_if_ne (t := 12) (q := 8) dX7_firm_5 (by decide) rfl (fun h5 => ?_) (fun h5 => (False.elim (by omega)))
          refine g_iload_n (i := 2) (q := 13) dX7_firm_12 rfl rfl rfl ?_
          refine g_iconst (q := 14) dX7_firm_13 rfl ⟨by decide, by decide⟩ ?_
          refine g_bipush (q := 16) dX7_firm_14 rfl ⟨by decide, by decide⟩ (by decide) ?_
          refine g_fnS (as := [zI 0, zI 0, zI 6]) (q := 19) (u' := 0) dX7_firm_16 rfl ck_X7_84 rfl rfl (Nat.le_of_ble_eq_true rfl) (by decide) rfl (by decide) (t_in_t (by omega)) rfl ?_
          refine g_if_eq (t := 26) (q := 22) dX7_firm_19 (by decide) rfl (fun h19 => (False.elim (by omega))) (fun h19 => ?_)
          refine g_iconst (q := 23) dX7_firm_22 rfl ⟨by decide, by decide⟩ ?_
          refine g_goto (q := 0) (t := 27) dX7_firm_23 (by decide) ?_
          refine g_put (q := 30) dX7_firm_27 rfl fk_X7_80 fp_7_0 rfl rfl ?_
          refine g_aload_n (i := 0) (q := 31) dX7_firm_30 rfl rfl rfl ?_
          refine g_getv (q := 34) (z := 0) dX7_firm_31 rfl fk_X7_80 rfl rfl rfl ?_
          refine g_if_le (t := 39) (q := 37) dX7_firm_34 (by decide) rfl (fun h34 => ?_) (fun h34 => (False.elim (by omega)))
          refine g_iload_n (i := 2) (q := 40) dX7_firm_39 rfl rfl rfl ?_
          refine g_swIn (q := 0) (t := 80) dX7_firm_40 (by decide) (by decide) rfl (by decide) ?_
          refine g_aload_n (i := 0) (q := 81) dX7_firm_80 rfl rfl rfl ?_
          refine g_getr (q := 84) dX7_firm_81 rfl fk_X7_13 rfl rfl ?_
          refine g_iload_n (i := 1) (q := 85) dX7_firm_84 rfl rfl rfl ?_
          refine g_zldv (q := 86) (z := S.2.1 41 f) dX7_firm_85 rfl ⟨by decide, rfl, rfl⟩ (by omega) (by omega) rfl ?_
          refine g_if_eq (t := 93) (q := 89) dX7_firm_86 (by decide) rfl (fun h86 => (False.elim (by omega))) (fun h86 => ?_)
          refine g_iconst (q := 90) dX7_firm_89 rfl ⟨by decide, by decide⟩ ?_
          refine g_goto (q := 0) (t := 94) dX7_firm_90 (by decide) ?_
          exact g_ret dX7_firm_94 rfl (by decide) (by unfold p_firm; (repeat (first | rw [if_pos (by omega)] | rw [if_neg (by omega)])); rw [e]; exact ⟨rfl, rfl⟩)
      · skip
        refine g_aload_n (i := 0) (q := 1) dX7_firm_0 rfl rfl rfl ?_
        refine g_iload_n (i := 1) (q := 2) dX7_firm_1 rfl rfl rfl ?_
        refine g_fnS (as := [zI f]) (q := 5) (u' := 0) dX7_firm_2 rfl ck_X7_98 rfl rfl (Nat.le_of_ble_eq_true rfl) (by decide) rfl (by decide) (t_isFirm_t hf) rfl ?_
        refine g_if_ne (t := 12) (q := 8) dX7_firm_5 (by decide) rfl (fun h5 => ?_) (fun h5 => (False.elim (by omega)))
        refine g_iload_n (i := 2) (q := 13) dX7_firm_12 rfl rfl rfl ?_
        refine g_iconst (q := 14) dX7_firm_13 rfl ⟨by decide, by decide⟩ ?_
        refine g_bipush (q := 16) dX7_firm_14 rfl ⟨by decide, by decide⟩ (by decide) ?_
        refine g_fnS (as := [zI 1, zI 0, zI 6]) (q := 19) (u' := 0) dX7_firm_16 rfl ck_X7_84 rfl rfl (Nat.le_of_ble_eq_true rfl) (by decide) rfl (by decide) (t_in_t (by omega)) rfl ?_
        refine g_if_eq (t := 26) (q := 22) dX7_firm_19 (by decide) rfl (fun h19 => (False.elim (by omega))) (fun h19 => ?_)
        refine g_iconst (q := 23) dX7_firm_22 rfl ⟨by decide, by decide⟩ ?_
        refine g_goto (q := 0) (t := 27) dX7_firm_23 (by decide) ?_
        refine g_put (q := 30) dX7_firm_27 rfl fk_X7_80 fp_7_0 rfl rfl ?_
        refine g_aload_n (i := 0) (q := 31) dX7_firm_30 rfl rfl rfl ?_
        refine g_getv (q := 34) (z := 0) dX7_firm_31 rfl fk_X7_80 rfl rfl rfl ?_
        refine g_if_le (t := 39) (q := 37) dX7_firm_34 (by decide) rfl (fun h34 => ?_) (fun h34 => (False.elim (by omega)))
        refine g_iload_n (i := 2) (q := 40) dX7_firm_39 rfl rfl rfl ?_
        refine g_swIn (q := 0) (t := 95) dX7_firm_40 (by decide) (by decide) rfl (by decide) ?_
        refine g_aload_n (i := 0) (q := 96) dX7_firm_95 rfl rfl rfl ?_
        refine g_iload_n (i := 1) (q := 97) dX7_firm_96 rfl rfl rfl ?_
        refine g_fnV (as := [zI f]) (q := 100) (u' := 0) dX7_firm_97 rfl ck_X7_101 rfl rfl rfl (Nat.le_of_ble_eq_true rfl) (by decide) rfl (by decide) (t_blocksOf (S := z_sS S 5 0)) rfl ?_
        exact g_ret dX7_firm_100 rfl (by decide) (by unfold p_firm; (repeat (first | rw [if_pos (by omega)] | rw [if_neg (by omega)])); exact ⟨rfl, rfl⟩)
      · skip
        refine g_aload_n (i := 0) (q := 1) dX7_firm_0 rfl rfl rfl ?_
        refine g_iload_n (i := 1) (q := 2) dX7_firm_1 rfl rfl rfl ?_
        refine g_fnS (as := [zI f]) (q := 5) (u' := 0) dX7_firm_2 rfl ck_X7_98 rfl rfl (Nat.le_of_ble_eq_true rfl) (by decide) rfl (by decide) (t_isFirm_t hf) rfl ?_
        refine g_if_ne (t := 12) (q := 8) dX7_firm_5 (by decide) rfl (fun h5 => ?_) (fun h5 => (False.elim (by omega)))
        refine g_iload_n (i := 2) (q := 13) dX7_firm_12 rfl rfl rfl ?_
        refine g_iconst (q := 14) dX7_firm_13 rfl ⟨by decide, by decide⟩ ?_
        refine g_bipush (q := 16) dX7_firm_14 rfl ⟨by decide, by decide⟩ (by decide) ?_
        refine g_fnS (as := [zI 2, zI 0, zI 6]) (q := 19) (u' := 0) dX7_firm_16 rfl ck_X7_84 rfl rfl (Nat.le_of_ble_eq_true rfl) (by decide) rfl (by decide) (t_in_t (by omega)) rfl ?_
        refine g_if_eq (t := 26) (q := 22) dX7_firm_19 (by decide) rfl (fun h19 => (False.elim (by omega))) (fun h19 => ?_)
        refine g_iconst (q := 23) dX7_firm_22 rfl ⟨by decide, by decide⟩ ?_
        refine g_goto (q := 0) (t := 27) dX7_firm_23 (by decide) ?_
        refine g_put (q := 30) dX7_firm_27 rfl fk_X7_80 fp_7_0 rfl rfl ?_
        refine g_aload_n (i := 0) (q := 31) dX7_firm_30 rfl rfl rfl ?_
        refine g_getv (q := 34) (z := 0) dX7_firm_31 rfl fk_X7_80 rfl rfl rfl ?_
        refine g_if_le (t := 39) (q := 37) dX7_firm_34 (by decide) rfl (fun h34 => ?_) (fun h34 => (False.elim (by omega)))
        refine g_iload_n (i := 2) (q := 40) dX7_firm_39 rfl rfl rfl ?_
        refine g_swIn (q := 0) (t := 101) dX7_firm_40 (by decide) (by decide) rfl (by decide) ?_
        refine g_aload_n (i := 0) (q := 102) dX7_firm_101 rfl rfl rfl ?_
        refine g_iload_n (i := 1) (q := 103) dX7_firm_102 rfl rfl rfl ?_
        refine g_fnV (as := [zI f]) (q := 106) (u' := 0) dX7_firm_103 rfl ck_X7_169 rfl rfl rfl (Nat.le_of_ble_eq_true rfl) (by decide) rfl (by decide) (t_servedBy (S := z_sS S 5 0)) rfl ?_
        exact g_ret dX7_firm_106 rfl (by decide) (by unfold p_firm; (repeat (first | rw [if_pos (by omega)] | rw [if_neg (by omega)])); exact ⟨rfl, rfl⟩)
      · rcases k3 with e | e
        · skip
          refine g_aload_n (i := 0) (q := 1) dX7_firm_0 rfl rfl rfl ?_
          refine g_iload_n (i := 1) (q := 2) dX7_firm_1 rfl rfl rfl ?_
          refine g_fnS (as := [zI f]) (q := 5) (u' := 0) dX7_firm_2 rfl ck_X7_98 rfl rfl (Nat.le_of_ble_eq_true rfl) (by decide) rfl (by decide) (t_isFirm_t hf) rfl ?_
          refine g_if_ne (t := 12) (q := 8) dX7_firm_5 (by decide) rfl (fun h5 => ?_) (fun h5 => (False.elim (by omega)))
          refine g_iload_n (i := 2) (q := 13) dX7_firm_12 rfl rfl rfl ?_
          refine g_iconst (q := 14) dX7_firm_13 rfl ⟨by decide, by decide⟩ ?_
          refine g_bipush (q := 16) dX7_firm_14 rfl ⟨by decide, by decide⟩ (by decide) ?_
          refine g_fnS (as := [zI 3, zI 0, zI 6]) (q := 19) (u' := 0) dX7_firm_16 rfl ck_X7_84 rfl rfl (Nat.le_of_ble_eq_true rfl) (by decide) rfl (by decide) (t_in_t (by omega)) rfl ?_
          refine g_if_eq (t := 26) (q := 22) dX7_firm_19 (by decide) rfl (fun h19 => (False.elim (by omega))) (fun h19 => ?_)
          refine g_iconst (q := 23) dX7_firm_22 rfl ⟨by decide, by decide⟩ ?_
          refine g_goto (q := 0) (t := 27) dX7_firm_23 (by decide) ?_
          refine g_put (q := 30) dX7_firm_27 rfl fk_X7_80 fp_7_0 rfl rfl ?_
          refine g_aload_n (i := 0) (q := 31) dX7_firm_30 rfl rfl rfl ?_
          refine g_getv (q := 34) (z := 0) dX7_firm_31 rfl fk_X7_80 rfl rfl rfl ?_
          refine g_if_le (t := 39) (q := 37) dX7_firm_34 (by decide) rfl (fun h34 => ?_) (fun h34 => (False.elim (by omega)))
          refine g_iload_n (i := 2) (q := 40) dX7_firm_39 rfl rfl rfl ?_
          refine g_swIn (q := 0) (t := 107) dX7_firm_40 (by decide) (by decide) rfl (by decide) ?_
          refine g_aload_n (i := 0) (q := 108) dX7_firm_107 rfl rfl rfl ?_
          refine g_getr (q := 111) dX7_firm_108 rfl fk_X7_71 rfl rfl ?_
          refine g_iload_n (i := 1) (q := 112) dX7_firm_111 rfl rfl rfl ?_
          refine g_zldv (q := 113) (z := S.2.1 60 f) dX7_firm_112 rfl ⟨by decide, rfl, rfl⟩ (by omega) (by omega) rfl ?_
          refine g_if_eq (t := 120) (q := 116) dX7_firm_113 (by decide) rfl (fun h113 => ?_) (fun h113 => (False.elim (by omega)))
          refine g_iconst (q := 121) dX7_firm_120 rfl ⟨by decide, by decide⟩ ?_
          exact g_ret dX7_firm_121 rfl (by decide) (by unfold p_firm; (repeat (first | rw [if_pos (by omega)] | rw [if_neg (by omega)])); rw [e]; exact ⟨rfl, rfl⟩)
        · skip
          refine g_aload_n (i := 0) (q := 1) dX7_firm_0 rfl rfl rfl ?_
          refine g_iload_n (i := 1) (q := 2) dX7_firm_1 rfl rfl rfl ?_
          refine g_fnS (as := [zI f]) (q := 5) (u' := 0) dX7_firm_2 rfl ck_X7_98 rfl rfl (Nat.le_of_ble_eq_true rfl) (by decide) rfl (by decide) (t_isFirm_t hf) rfl ?_
          refine g_if_ne (t := 12) (q := 8) dX7_firm_5 (by decide) rfl (fun h5 => ?_) (fun h5 => (False.elim (by omega)))
          refine g_iload_n (i := 2) (q := 13) dX7_firm_12 rfl rfl rfl ?_
          refine g_iconst (q := 14) dX7_firm_13 rfl ⟨by decide, by decide⟩ ?_
          refine g_bipush (q := 16) dX7_firm_14 rfl ⟨by decide, by decide⟩ (by decide) ?_
          refine g_fnS (as := [zI 3, zI 0, zI 6]) (q := 19) (u' := 0) dX7_firm_16 rfl ck_X7_84 rfl rfl (Nat.le_of_ble_eq_true rfl) (by decide) rfl (by decide) (t_in_t (by omega)) rfl ?_
          refine g_if_eq (t := 26) (q := 22) dX7_firm_19 (by decide) rfl (fun h19 => (False.elim (by omega))) (fun h19 => ?_)
          refine g_iconst (q := 23) dX7_firm_22 rfl ⟨by decide, by decide⟩ ?_
          refine g_goto (q := 0) (t := 27) dX7_firm_23 (by decide) ?_
          refine g_put (q := 30) dX7_firm_27 rfl fk_X7_80 fp_7_0 rfl rfl ?_
          refine g_aload_n (i := 0) (q := 31) dX7_firm_30 rfl rfl rfl ?_
          refine g_getv (q := 34) (z := 0) dX7_firm_31 rfl fk_X7_80 rfl rfl rfl ?_
          refine g_if_le (t := 39) (q := 37) dX7_firm_34 (by decide) rfl (fun h34 => ?_) (fun h34 => (False.elim (by omega)))
          refine g_iload_n (i := 2) (q := 40) dX7_firm_39 rfl rfl rfl ?_
          refine g_swIn (q := 0) (t := 107) dX7_firm_40 (by decide) (by decide) rfl (by decide) ?_
          refine g_aload_n (i := 0) (q := 108) dX7_firm_107 rfl rfl rfl ?_
          refine g_getr (q := 111) dX7_firm_108 rfl fk_X7_71 rfl rfl ?_
          refine g_iload_n (i := 1) (q := 112) dX7_firm_111 rfl rfl rfl ?_
          refine g_zldv (q := 113) (z := S.2.1 60 f) dX7_firm_112 rfl ⟨by decide, rfl, rfl⟩ (by omega) (by omega) rfl ?_
          refine g_if_eq (t := 120) (q := 116) dX7_firm_113 (by decide) rfl (fun h113 => (False.elim (by omega))) (fun h113 => ?_)
          refine g_iconst (q := 117) dX7_firm_116 rfl ⟨by decide, by decide⟩ ?_
          refine g_goto (q := 0) (t := 121) dX7_firm_117 (by decide) ?_
          exact g_ret dX7_firm_121 rfl (by decide) (by unfold p_firm; (repeat (first | rw [if_pos (by omega)] | rw [if_neg (by omega)])); rw [e]; exact ⟨rfl, rfl⟩)
      · skip
        refine g_aload_n (i := 0) (q := 1) dX7_firm_0 rfl rfl rfl ?_
        refine g_iload_n (i := 1) (q := 2) dX7_firm_1 rfl rfl rfl ?_
        refine g_fnS (as := [zI f]) (q := 5) (u' := 0) dX7_firm_2 rfl ck_X7_98 rfl rfl (Nat.le_of_ble_eq_true rfl) (by decide) rfl (by decide) (t_isFirm_t hf) rfl ?_
        refine g_if_ne (t := 12) (q := 8) dX7_firm_5 (by decide) rfl (fun h5 => ?_) (fun h5 => (False.elim (by omega)))
        refine g_iload_n (i := 2) (q := 13) dX7_firm_12 rfl rfl rfl ?_
        refine g_iconst (q := 14) dX7_firm_13 rfl ⟨by decide, by decide⟩ ?_
        refine g_bipush (q := 16) dX7_firm_14 rfl ⟨by decide, by decide⟩ (by decide) ?_
        refine g_fnS (as := [zI 4, zI 0, zI 6]) (q := 19) (u' := 0) dX7_firm_16 rfl ck_X7_84 rfl rfl (Nat.le_of_ble_eq_true rfl) (by decide) rfl (by decide) (t_in_t (by omega)) rfl ?_
        refine g_if_eq (t := 26) (q := 22) dX7_firm_19 (by decide) rfl (fun h19 => (False.elim (by omega))) (fun h19 => ?_)
        refine g_iconst (q := 23) dX7_firm_22 rfl ⟨by decide, by decide⟩ ?_
        refine g_goto (q := 0) (t := 27) dX7_firm_23 (by decide) ?_
        refine g_put (q := 30) dX7_firm_27 rfl fk_X7_80 fp_7_0 rfl rfl ?_
        refine g_aload_n (i := 0) (q := 31) dX7_firm_30 rfl rfl rfl ?_
        refine g_getv (q := 34) (z := 0) dX7_firm_31 rfl fk_X7_80 rfl rfl rfl ?_
        refine g_if_le (t := 39) (q := 37) dX7_firm_34 (by decide) rfl (fun h34 => ?_) (fun h34 => (False.elim (by omega)))
        refine g_iload_n (i := 2) (q := 40) dX7_firm_39 rfl rfl rfl ?_
        refine g_swIn (q := 0) (t := 122) dX7_firm_40 (by decide) (by decide) rfl (by decide) ?_
        refine g_aload_n (i := 0) (q := 123) dX7_firm_122 rfl rfl rfl ?_
        refine g_getr (q := 126) dX7_firm_123 rfl fk_X7_68 rfl rfl ?_
        refine g_iload_n (i := 1) (q := 127) dX7_firm_126 rfl rfl rfl ?_
        refine g_ildv (q := 128) (z := S.2.1 59 f) dX7_firm_127 rfl ⟨by decide, rfl, rfl⟩ (by omega) (by omega) rfl ?_
        exact g_ret dX7_firm_128 rfl (by decide) (by unfold p_firm; (repeat (first | rw [if_pos (by omega)] | rw [if_neg (by omega)])); exact ⟨rfl, rfl⟩)
      · skip
        refine g_aload_n (i := 0) (q := 1) dX7_firm_0 rfl rfl rfl ?_
        refine g_iload_n (i := 1) (q := 2) dX7_firm_1 rfl rfl rfl ?_
        refine g_fnS (as := [zI f]) (q := 5) (u' := 0) dX7_firm_2 rfl ck_X7_98 rfl rfl (Nat.le_of_ble_eq_true rfl) (by decide) rfl (by decide) (t_isFirm_t hf) rfl ?_
        refine g_if_ne (t := 12) (q := 8) dX7_firm_5 (by decide) rfl (fun h5 => ?_) (fun h5 => (False.elim (by omega)))
        refine g_iload_n (i := 2) (q := 13) dX7_firm_12 rfl rfl rfl ?_
        refine g_iconst (q := 14) dX7_firm_13 rfl ⟨by decide, by decide⟩ ?_
        refine g_bipush (q := 16) dX7_firm_14 rfl ⟨by decide, by decide⟩ (by decide) ?_
        refine g_fnS (as := [zI 5, zI 0, zI 6]) (q := 19) (u' := 0) dX7_firm_16 rfl ck_X7_84 rfl rfl (Nat.le_of_ble_eq_true rfl) (by decide) rfl (by decide) (t_in_t (by omega)) rfl ?_
        refine g_if_eq (t := 26) (q := 22) dX7_firm_19 (by decide) rfl (fun h19 => (False.elim (by omega))) (fun h19 => ?_)
        refine g_iconst (q := 23) dX7_firm_22 rfl ⟨by decide, by decide⟩ ?_
        refine g_goto (q := 0) (t := 27) dX7_firm_23 (by decide) ?_
        refine g_put (q := 30) dX7_firm_27 rfl fk_X7_80 fp_7_0 rfl rfl ?_
        refine g_aload_n (i := 0) (q := 31) dX7_firm_30 rfl rfl rfl ?_
        refine g_getv (q := 34) (z := 0) dX7_firm_31 rfl fk_X7_80 rfl rfl rfl ?_
        refine g_if_le (t := 39) (q := 37) dX7_firm_34 (by decide) rfl (fun h34 => ?_) (fun h34 => (False.elim (by omega)))
        refine g_iload_n (i := 2) (q := 40) dX7_firm_39 rfl rfl rfl ?_
        refine g_swIn (q := 0) (t := 129) dX7_firm_40 (by decide) (by decide) rfl (by decide) ?_
        refine g_aload_n (i := 0) (q := 130) dX7_firm_129 rfl rfl rfl ?_
        refine g_getr (q := 133) dX7_firm_130 rfl fk_X7_74 rfl rfl ?_
        refine g_iload_n (i := 1) (q := 134) dX7_firm_133 rfl rfl rfl ?_
        refine g_ildv (q := 135) (z := S.2.1 61 f) dX7_firm_134 rfl ⟨by decide, rfl, rfl⟩ (by omega) (by omega) rfl ?_
        exact g_ret dX7_firm_135 rfl (by decide) (by unfold p_firm; (repeat (first | rw [if_pos (by omega)] | rw [if_neg (by omega)])); exact ⟨rfl, rfl⟩)
      · skip
        refine g_aload_n (i := 0) (q := 1) dX7_firm_0 rfl rfl rfl ?_
        refine g_iload_n (i := 1) (q := 2) dX7_firm_1 rfl rfl rfl ?_
        refine g_fnS (as := [zI f]) (q := 5) (u' := 0) dX7_firm_2 rfl ck_X7_98 rfl rfl (Nat.le_of_ble_eq_true rfl) (by decide) rfl (by decide) (t_isFirm_t hf) rfl ?_
        refine g_if_ne (t := 12) (q := 8) dX7_firm_5 (by decide) rfl (fun h5 => ?_) (fun h5 => (False.elim (by omega)))
        refine g_iload_n (i := 2) (q := 13) dX7_firm_12 rfl rfl rfl ?_
        refine g_iconst (q := 14) dX7_firm_13 rfl ⟨by decide, by decide⟩ ?_
        refine g_bipush (q := 16) dX7_firm_14 rfl ⟨by decide, by decide⟩ (by decide) ?_
        refine g_fnS (as := [zI 6, zI 0, zI 6]) (q := 19) (u' := 0) dX7_firm_16 rfl ck_X7_84 rfl rfl (Nat.le_of_ble_eq_true rfl) (by decide) rfl (by decide) (t_in_t (by omega)) rfl ?_
        refine g_if_eq (t := 26) (q := 22) dX7_firm_19 (by decide) rfl (fun h19 => (False.elim (by omega))) (fun h19 => ?_)
        refine g_iconst (q := 23) dX7_firm_22 rfl ⟨by decide, by decide⟩ ?_
        refine g_goto (q := 0) (t := 27) dX7_firm_23 (by decide) ?_
        refine g_put (q := 30) dX7_firm_27 rfl fk_X7_80 fp_7_0 rfl rfl ?_
        refine g_aload_n (i := 0) (q := 31) dX7_firm_30 rfl rfl rfl ?_
        refine g_getv (q := 34) (z := 0) dX7_firm_31 rfl fk_X7_80 rfl rfl rfl ?_
        refine g_if_le (t := 39) (q := 37) dX7_firm_34 (by decide) rfl (fun h34 => ?_) (fun h34 => (False.elim (by omega)))
        refine g_iload_n (i := 2) (q := 40) dX7_firm_39 rfl rfl rfl ?_
        refine g_swOut (q := 0) (t := 136) dX7_firm_40 (by decide) (by decide) ?_
        refine g_aload_n (i := 0) (q := 137) dX7_firm_136 rfl rfl rfl ?_
        refine g_getv (q := 140) (z := S.1 8) dX7_firm_137 rfl fk_X7_117 rfl rfl rfl ?_
        refine g_aload_n (i := 0) (q := 141) dX7_firm_140 rfl rfl rfl ?_
        refine g_getr (q := 144) dX7_firm_141 rfl fk_X7_65 rfl rfl ?_
        refine g_iload_n (i := 1) (q := 145) dX7_firm_144 rfl rfl rfl ?_
        refine g_ildv (q := 146) (z := S.2.1 58 f) dX7_firm_145 rfl ⟨by decide, rfl, rfl⟩ (by omega) (by omega) rfl ?_
        refine g_isub (q := 147) dX7_firm_146 rfl (by constructor <;> omega) ?_
        exact g_ret dX7_firm_147 rfl (by decide) (by unfold p_firm; (repeat (first | rw [if_pos (by omega)] | rw [if_neg (by omega)])); exact ⟨rfl, rfl⟩)
    · skip
      refine g_aload_n (i := 0) (q := 1) dX7_firm_0 rfl rfl rfl ?_
      refine g_iload_n (i := 1) (q := 2) dX7_firm_1 rfl rfl rfl ?_
      refine g_fnS (as := [zI f]) (q := 5) (u' := 0) dX7_firm_2 rfl ck_X7_98 rfl rfl (Nat.le_of_ble_eq_true rfl) (by decide) rfl (by decide) (t_isFirm_t hf) rfl ?_
      refine g_if_ne (t := 12) (q := 8) dX7_firm_5 (by decide) rfl (fun h5 => ?_) (fun h5 => (False.elim (by omega)))
      refine g_iload_n (i := 2) (q := 13) dX7_firm_12 rfl rfl rfl ?_
      refine g_iconst (q := 14) dX7_firm_13 rfl ⟨by decide, by decide⟩ ?_
      refine g_bipush (q := 16) dX7_firm_14 rfl ⟨by decide, by decide⟩ (by decide) ?_
      refine g_fnS (as := [zI w, zI 0, zI 6]) (q := 19) (u' := 0) dX7_firm_16 rfl ck_X7_84 rfl rfl (Nat.le_of_ble_eq_true rfl) (by decide) rfl (by decide) (t_in_f (by omega)) rfl ?_
      refine g_if_eq (t := 26) (q := 22) dX7_firm_19 (by decide) rfl (fun h19 => ?_) (fun h19 => (False.elim (by omega)))
      refine g_iconst (q := 27) dX7_firm_26 rfl ⟨by decide, by decide⟩ ?_
      refine g_put (q := 30) dX7_firm_27 rfl fk_X7_80 fp_7_0 rfl rfl ?_
      refine g_aload_n (i := 0) (q := 31) dX7_firm_30 rfl rfl rfl ?_
      refine g_getv (q := 34) (z := 2) dX7_firm_31 rfl fk_X7_80 rfl rfl rfl ?_
      refine g_if_le (t := 39) (q := 37) dX7_firm_34 (by decide) rfl (fun h34 => (False.elim (by omega))) (fun h34 => ?_)
      refine g_iconst (q := 38) dX7_firm_37 rfl ⟨by decide, by decide⟩ ?_
      exact g_ret dX7_firm_38 rfl (by decide) (by unfold p_firm; (repeat (first | rw [if_pos (by omega)] | rw [if_neg (by omega)])); exact ⟨rfl, rfl⟩)
  · skip
    refine g_aload_n (i := 0) (q := 1) dX7_firm_0 rfl rfl rfl ?_
    refine g_iload_n (i := 1) (q := 2) dX7_firm_1 rfl rfl rfl ?_
    refine g_fnS (as := [zI f]) (q := 5) (u' := 0) dX7_firm_2 rfl ck_X7_98 rfl rfl (Nat.le_of_ble_eq_true rfl) (by decide) rfl (by decide) (t_isFirm_f hf) rfl ?_
    refine g_if_ne (t := 12) (q := 8) dX7_firm_5 (by decide) rfl (fun h5 => (False.elim (by omega))) (fun h5 => ?_)
    refine g_iconst (q := 9) dX7_firm_8 rfl ⟨by decide, by decide⟩ ?_
    refine g_goto (q := 0) (t := 27) dX7_firm_9 (by decide) ?_
    refine g_put (q := 30) dX7_firm_27 rfl fk_X7_80 fp_7_0 rfl rfl ?_
    refine g_aload_n (i := 0) (q := 31) dX7_firm_30 rfl rfl rfl ?_
    refine g_getv (q := 34) (z := 1) dX7_firm_31 rfl fk_X7_80 rfl rfl rfl ?_
    refine g_if_le (t := 39) (q := 37) dX7_firm_34 (by decide) rfl (fun h34 => (False.elim (by omega))) (fun h34 => ?_)
    refine g_iconst (q := 38) dX7_firm_37 rfl ⟨by decide, by decide⟩ ?_
    exact g_ret dX7_firm_38 rfl (by decide) (by unfold p_firm; (repeat (first | rw [if_pos (by omega)] | rw [if_neg (by omega)])); exact ⟨rfl, rfl⟩)
def p_known (S : zS) (f n : Int) : Int × zS := if ¬ ((0 ≤ f ∧ f < 6) ∧ (0 ≤ n ∧ n < 200)) then (0, z_sS S 5 1) else (y_kb (z_sS S 5 0) f n, z_sS S 5 0)
theorem t_known2 {S : zS} {f n : Int} (hk : ∀ f : Int, 0 ≤ f → f < 6 → 0 ≤ S.2.1 58 f ∧ S.2.1 58 f ≤ 4000) : z_Ret mX7_known [zR 7, zI f, zI n] S (p_known S f n) := by
  refine z_enter (by decide +kernel) rfl (z_n1 trivial (z_n1 trivial (z_n1 trivial z_n0))) (Nat.le_of_ble_eq_true rfl) ?_
  refine g_aload_n (i := 0) (q := 1) dX7_known_0 rfl rfl rfl ?_
  refine g_iload_n (i := 1) (q := 2) dX7_known_1 rfl rfl rfl ?_
  by_cases c2 : 0 ≤ f ∧ f < 6
  · refine g_fnS (as := [zI f]) (q := 5) (u' := 0) dX7_known_2 rfl ck_X7_98 rfl rfl (Nat.le_of_ble_eq_true rfl) (by decide) rfl (by decide) (t_isFirm_t c2) rfl ?_
    refine g_if_eq (t := 19) (q := 8) dX7_known_5 (by decide) rfl (fun h5 => (False.elim (by omega))) (fun h5 => ?_)
    refine g_iload_n (i := 2) (q := 9) dX7_known_8 rfl rfl rfl ?_
    by_cases c9 : 0 ≤ n ∧ n < 200
    · refine g_fnS (as := [zI n]) (q := 12) (u' := 0) dX7_known_9 rfl ck_X7_108 rfl rfl (Nat.le_of_ble_eq_true rfl) (by decide) rfl (by decide) (t_isNumber_t c9) rfl ?_
      refine g_if_eq (t := 19) (q := 15) dX7_known_12 (by decide) rfl (fun h12 => (False.elim (by omega))) (fun h12 => ?_)
      refine g_iconst (q := 16) dX7_known_15 rfl ⟨by decide, by decide⟩ ?_
      refine g_goto (q := 0) (t := 20) dX7_known_16 (by decide) ?_
      refine g_put (q := 23) dX7_known_20 rfl fk_X7_80 fp_7_0 rfl rfl ?_
      refine g_aload_n (i := 0) (q := 24) dX7_known_23 rfl rfl rfl ?_
      refine g_getv (q := 27) (z := 0) dX7_known_24 rfl fk_X7_80 rfl rfl rfl ?_
      refine g_if_le (t := 34) (q := 30) dX7_known_27 (by decide) rfl (fun h27 => ?_) (fun h27 => (False.elim (by omega)))
      refine g_aload_n (i := 0) (q := 35) dX7_known_34 rfl rfl rfl ?_
      refine g_iload_n (i := 1) (q := 36) dX7_known_35 rfl rfl rfl ?_
      refine g_iload_n (i := 2) (q := 37) dX7_known_36 rfl rfl rfl ?_
      refine g_fnV (as := [zI f, zI n]) (q := 40) (u' := 0) dX7_known_37 rfl ck_X7_172 rfl rfl rfl (Nat.le_of_ble_eq_true rfl) (by decide) rfl (by decide) (t_knownBy (S := z_sS S 5 0) (by omega) (by omega) (hk f (by omega) (by omega))) rfl ?_
      exact g_ret dX7_known_40 rfl (by decide) (by unfold p_known; (repeat (first | rw [if_pos (by omega)] | rw [if_neg (by omega)])); exact ⟨rfl, rfl⟩)
    · refine g_fnS (as := [zI n]) (q := 12) (u' := 0) dX7_known_9 rfl ck_X7_108 rfl rfl (Nat.le_of_ble_eq_true rfl) (by decide) rfl (by decide) (t_isNumber_f c9) rfl ?_
      refine g_if_eq (t := 19) (q := 15) dX7_known_12 (by decide) rfl (fun h12 => ?_) (fun h12 => (False.elim (by omega)))
      refine g_iconst (q := 20) dX7_known_19 rfl ⟨by decide, by decide⟩ ?_
      refine g_put (q := 23) dX7_known_20 rfl fk_X7_80 fp_7_0 rfl rfl ?_
      refine g_aload_n (i := 0) (q := 24) dX7_known_23 rfl rfl rfl ?_
      refine g_getv (q := 27) (z := 1) dX7_known_24 rfl fk_X7_80 rfl rfl rfl ?_
      refine g_if_le (t := 34) (q := 30) dX7_known_27 (by decide) rfl (fun h27 => (False.elim (by omega))) (fun h27 => ?_)
      refine g_iconst (q := 31) dX7_known_30 rfl ⟨by decide, by decide⟩ ?_
      refine g_goto (q := 0) (t := 40) dX7_known_31 (by decide) ?_
      exact g_ret dX7_known_40 rfl (by decide) (by unfold p_known; (repeat (first | rw [if_pos (by omega)] | rw [if_neg (by omega)])); exact ⟨rfl, rfl⟩)
  · refine g_fnS (as := [zI f]) (q := 5) (u' := 0) dX7_known_2 rfl ck_X7_98 rfl rfl (Nat.le_of_ble_eq_true rfl) (by decide) rfl (by decide) (t_isFirm_f c2) rfl ?_
    refine g_if_eq (t := 19) (q := 8) dX7_known_5 (by decide) rfl (fun h5 => ?_) (fun h5 => (False.elim (by omega)))
    refine g_iconst (q := 20) dX7_known_19 rfl ⟨by decide, by decide⟩ ?_
    refine g_put (q := 23) dX7_known_20 rfl fk_X7_80 fp_7_0 rfl rfl ?_
    refine g_aload_n (i := 0) (q := 24) dX7_known_23 rfl rfl rfl ?_
    refine g_getv (q := 27) (z := 1) dX7_known_24 rfl fk_X7_80 rfl rfl rfl ?_
    refine g_if_le (t := 34) (q := 30) dX7_known_27 (by decide) rfl (fun h27 => (False.elim (by omega))) (fun h27 => ?_)
    refine g_iconst (q := 31) dX7_known_30 rfl ⟨by decide, by decide⟩ ?_
    refine g_goto (q := 0) (t := 40) dX7_known_31 (by decide) ?_
    exact g_ret dX7_known_40 rfl (by decide) (by unfold p_known; (repeat (first | rw [if_pos (by omega)] | rw [if_neg (by omega)])); exact ⟨rfl, rfl⟩)
def y_au (S : zS) (f : Int) : Nat → Nat
  | 0 => 0
  | i + 1 => y_au S f i + if ¬ S.2.1 42 i = -1 ∧ ¬ y_kb S f i = S.2.1 42 i then 1 else 0
theorem y_au_le (S : zS) (f : Int) : ∀ i, y_au S f i ≤ i
  | 0 => Nat.le_refl _
  | i + 1 => by
    have h := y_au_le S f i
    rw [y_au]
    split <;> omega
def p_audit (S : zS) (f : Int) : Int × zS := if ¬ (0 ≤ f ∧ f < 6) then (0, z_sS S 5 1) else (y_au (z_sS S 5 0) f 200, z_sS S 5 0)
theorem l_X7_audit {Q : zQ} {S : zS} {f : Int} (ht : S.1 5 = 0) (hf : 0 ≤ f ∧ f < 6) (hk : 0 ≤ S.2.1 58 f ∧ S.2.1 58 f ≤ 4000) (hQ : Q (.ok (some (zI (y_au S f 200)))) S) : ∀ (k i : Nat) (w : Int), i + k = 200 → w = y_au S f i → z_G mX7_audit (z_F mX7_audit Q) 0 20 [some (zR 7), some (zI f), some (zI w), some (zI (i : Int))] [] S := by
  intro k
  induction k with
  | zero =>
    intro i w hi hw
    have e : i = 200 := by omega
    subst e
    subst hw
    refine g_iload_n (i := 3) (q := 21) dX7_audit_20 rfl rfl rfl ?_
    refine g_sipush (q := 24) dX7_audit_21 rfl ⟨by decide, by decide⟩ (by decide) ?_
    refine g_icmp_ge (t := 73) (q := 27) dX7_audit_24 (by decide) rfl (fun h24 => ?_) (fun h24 => (False.elim (by omega)))
    refine g_iload_n (i := 2) (q := 74) dX7_audit_73 rfl rfl rfl ?_
    exact g_ret dX7_audit_74 rfl (by decide) hQ
  | succ k ih =>
    intro i w hi hw
    have hle := y_au_le S f i
    have hnx := ih (i + 1)
    rw [y_au] at hnx
    by_cases e1 : S.2.1 42 i = -1
    · rw [if_neg (fun q => q.1 e1)] at hnx
      refine g_iload_n (i := 3) (q := 21) dX7_audit_20 rfl rfl rfl ?_
      refine g_sipush (q := 24) dX7_audit_21 rfl ⟨by decide, by decide⟩ (by decide) ?_
      refine g_icmp_ge (t := 73) (q := 27) dX7_audit_24 (by decide) rfl (fun h24 => (False.elim (by omega))) (fun h24 => ?_)
      refine g_aload_n (i := 0) (q := 28) dX7_audit_27 rfl rfl rfl ?_
      refine g_getv (q := 31) (z := S.1 5) dX7_audit_28 rfl fk_X7_80 rfl rfl rfl ?_
      refine g_if_ne (t := 73) (q := 34) dX7_audit_31 (by decide) rfl (fun h31 => (False.elim (by omega))) (fun h31 => ?_)
      refine g_iload_n (i := 2) (q := 35) dX7_audit_34 rfl rfl rfl ?_
      refine g_aload_n (i := 0) (q := 36) dX7_audit_35 rfl rfl rfl ?_
      refine g_getr (q := 39) dX7_audit_36 rfl fk_X7_17 rfl rfl ?_
      refine g_iload_n (i := 3) (q := 40) dX7_audit_39 rfl rfl rfl ?_
      refine g_ildv (q := 41) (z := S.2.1 42 (i : Int)) dX7_audit_40 rfl ⟨by decide, rfl, rfl⟩ (by omega) (by omega) rfl ?_
      refine g_iconst (q := 42) dX7_audit_41 rfl ⟨by decide, by decide⟩ ?_
      refine g_icmp_eq (t := 64) (q := 45) dX7_audit_42 (by decide) rfl (fun h42 => ?_) (fun h42 => (False.elim (by omega)))
      refine g_iconst (q := 65) dX7_audit_64 rfl ⟨by decide, by decide⟩ ?_
      refine g_iadd (q := 66) dX7_audit_65 rfl (by constructor <;> omega) ?_
      refine g_istore_n (i := 2) (q := 67) dX7_audit_66 rfl rfl (by decide) ?_
      refine g_iinc (q := 70) (i := 3) (n := 1) dX7_audit_67 rfl rfl (by constructor <;> omega) ?_
      refine g_goto (q := 0) (t := 20) dX7_audit_70 (by decide) ?_
      exact hnx _ (by omega) (by omega)
    · by_cases e2 : y_kb S f i = S.2.1 42 i
      · rw [if_neg (fun q => q.2 e2)] at hnx
        refine g_iload_n (i := 3) (q := 21) dX7_audit_20 rfl rfl rfl ?_
        refine g_sipush (q := 24) dX7_audit_21 rfl ⟨by decide, by decide⟩ (by decide) ?_
        refine g_icmp_ge (t := 73) (q := 27) dX7_audit_24 (by decide) rfl (fun h24 => (False.elim (by omega))) (fun h24 => ?_)
        refine g_aload_n (i := 0) (q := 28) dX7_audit_27 rfl rfl rfl ?_
        refine g_getv (q := 31) (z := S.1 5) dX7_audit_28 rfl fk_X7_80 rfl rfl rfl ?_
        refine g_if_ne (t := 73) (q := 34) dX7_audit_31 (by decide) rfl (fun h31 => (False.elim (by omega))) (fun h31 => ?_)
        refine g_iload_n (i := 2) (q := 35) dX7_audit_34 rfl rfl rfl ?_
        refine g_aload_n (i := 0) (q := 36) dX7_audit_35 rfl rfl rfl ?_
        refine g_getr (q := 39) dX7_audit_36 rfl fk_X7_17 rfl rfl ?_
        refine g_iload_n (i := 3) (q := 40) dX7_audit_39 rfl rfl rfl ?_
        refine g_ildv (q := 41) (z := S.2.1 42 (i : Int)) dX7_audit_40 rfl ⟨by decide, rfl, rfl⟩ (by omega) (by omega) rfl ?_
        refine g_iconst (q := 42) dX7_audit_41 rfl ⟨by decide, by decide⟩ ?_
        refine g_icmp_eq (t := 64) (q := 45) dX7_audit_42 (by decide) rfl (fun h42 => (False.elim (by omega))) (fun h42 => ?_)
        refine g_aload_n (i := 0) (q := 46) dX7_audit_45 rfl rfl rfl ?_
        refine g_iload_n (i := 1) (q := 47) dX7_audit_46 rfl rfl rfl ?_
        refine g_iload_n (i := 3) (q := 48) dX7_audit_47 rfl rfl rfl ?_
        refine g_fnV (as := [zI f, zI (i : Int)]) (q := 51) (u' := 0) dX7_audit_48 rfl ck_X7_172 rfl rfl rfl (Nat.le_of_ble_eq_true rfl) (by decide) rfl (by decide) (t_knownBy hf (by omega) hk) rfl ?_
        refine g_aload_n (i := 0) (q := 52) dX7_audit_51 rfl rfl rfl ?_
        refine g_getr (q := 55) dX7_audit_52 rfl fk_X7_17 rfl rfl ?_
        refine g_iload_n (i := 3) (q := 56) dX7_audit_55 rfl rfl rfl ?_
        refine g_ildv (q := 57) (z := S.2.1 42 (i : Int)) dX7_audit_56 rfl ⟨by decide, rfl, rfl⟩ (by omega) (by omega) rfl ?_
        refine g_icmp_eq (t := 64) (q := 60) dX7_audit_57 (by decide) rfl (fun h57 => ?_) (fun h57 => (False.elim (by omega)))
        refine g_iconst (q := 65) dX7_audit_64 rfl ⟨by decide, by decide⟩ ?_
        refine g_iadd (q := 66) dX7_audit_65 rfl (by constructor <;> omega) ?_
        refine g_istore_n (i := 2) (q := 67) dX7_audit_66 rfl rfl (by decide) ?_
        refine g_iinc (q := 70) (i := 3) (n := 1) dX7_audit_67 rfl rfl (by constructor <;> omega) ?_
        refine g_goto (q := 0) (t := 20) dX7_audit_70 (by decide) ?_
        exact hnx _ (by omega) (by omega)
      · rw [if_pos ⟨e1, e2⟩] at hnx
        refine g_iload_n (i := 3) (q := 21) dX7_audit_20 rfl rfl rfl ?_
        refine g_sipush (q := 24) dX7_audit_21 rfl ⟨by decide, by decide⟩ (by decide) ?_
        refine g_icmp_ge (t := 73) (q := 27) dX7_audit_24 (by decide) rfl (fun h24 => (False.elim (by omega))) (fun h24 => ?_)
        refine g_aload_n (i := 0) (q := 28) dX7_audit_27 rfl rfl rfl ?_
        refine g_getv (q := 31) (z := S.1 5) dX7_audit_28 rfl fk_X7_80 rfl rfl rfl ?_
        refine g_if_ne (t := 73) (q := 34) dX7_audit_31 (by decide) rfl (fun h31 => (False.elim (by omega))) (fun h31 => ?_)
        refine g_iload_n (i := 2) (q := 35) dX7_audit_34 rfl rfl rfl ?_
        refine g_aload_n (i := 0) (q := 36) dX7_audit_35 rfl rfl rfl ?_
        refine g_getr (q := 39) dX7_audit_36 rfl fk_X7_17 rfl rfl ?_
        refine g_iload_n (i := 3) (q := 40) dX7_audit_39 rfl rfl rfl ?_
        refine g_ildv (q := 41) (z := S.2.1 42 (i : Int)) dX7_audit_40 rfl ⟨by decide, rfl, rfl⟩ (by omega) (by omega) rfl ?_
        refine g_iconst (q := 42) dX7_audit_41 rfl ⟨by decide, by decide⟩ ?_
        refine g_icmp_eq (t := 64) (q := 45) dX7_audit_42 (by decide) rfl (fun h42 => (False.elim (by omega))) (fun h42 => ?_)
        refine g_aload_n (i := 0) (q := 46) dX7_audit_45 rfl rfl rfl ?_
        refine g_iload_n (i := 1) (q := 47) dX7_audit_46 rfl rfl rfl ?_
        refine g_iload_n (i := 3) (q := 48) dX7_audit_47 rfl rfl rfl ?_
        refine g_fnV (as := [zI f, zI (i : Int)]) (q := 51) (u' := 0) dX7_audit_48 rfl ck_X7_172 rfl rfl rfl (Nat.le_of_ble_eq_true rfl) (by decide) rfl (by decide) (t_knownBy hf (by omega) hk) rfl ?_
        refine g_aload_n (i := 0) (q := 52) dX7_audit_51 rfl rfl rfl ?_
        refine g_getr (q := 55) dX7_audit_52 rfl fk_X7_17 rfl rfl ?_
        refine g_iload_n (i := 3) (q := 56) dX7_audit_55 rfl rfl rfl ?_
        refine g_ildv (q := 57) (z := S.2.1 42 (i : Int)) dX7_audit_56 rfl ⟨by decide, rfl, rfl⟩ (by omega) (by omega) rfl ?_
        refine g_icmp_eq (t := 64) (q := 60) dX7_audit_57 (by decide) rfl (fun h57 => (False.elim (by omega))) (fun h57 => ?_)
        refine g_iconst (q := 61) dX7_audit_60 rfl ⟨by decide, by decide⟩ ?_
        refine g_goto (q := 0) (t := 65) dX7_audit_61 (by decide) ?_
        refine g_iadd (q := 66) dX7_audit_65 rfl (by constructor <;> omega) ?_
        refine g_istore_n (i := 2) (q := 67) dX7_audit_66 rfl rfl (by decide) ?_
        refine g_iinc (q := 70) (i := 3) (n := 1) dX7_audit_67 rfl rfl (by constructor <;> omega) ?_
        refine g_goto (q := 0) (t := 20) dX7_audit_70 (by decide) ?_
        exact hnx _ (by omega) (by omega)
theorem t_audit {S : zS} {f : Int} (hk : ∀ f : Int, 0 ≤ f → f < 6 → 0 ≤ S.2.1 58 f ∧ S.2.1 58 f ≤ 4000) : z_Ret mX7_audit [zR 7, zI f] S (p_audit S f) := by
  refine z_enter (by decide +kernel) rfl (z_n1 trivial (z_n1 trivial z_n0)) (Nat.le_of_ble_eq_true rfl) ?_
  by_cases hf : 0 ≤ f ∧ f < 6
  · skip
    refine g_aload_n (i := 0) (q := 1) dX7_audit_0 rfl rfl rfl ?_
    refine g_iload_n (i := 1) (q := 2) dX7_audit_1 rfl rfl rfl ?_
    refine g_fnS (as := [zI f]) (q := 5) (u' := 0) dX7_audit_2 rfl ck_X7_98 rfl rfl (Nat.le_of_ble_eq_true rfl) (by decide) rfl (by decide) (t_isFirm_t hf) rfl ?_
    refine g_if_eq (t := 12) (q := 8) dX7_audit_5 (by decide) rfl (fun h5 => (False.elim (by omega))) (fun h5 => ?_)
    refine g_iconst (q := 9) dX7_audit_8 rfl ⟨by decide, by decide⟩ ?_
    refine g_goto (q := 0) (t := 13) dX7_audit_9 (by decide) ?_
    refine g_put (q := 16) dX7_audit_13 rfl fk_X7_80 fp_7_0 rfl rfl ?_
    refine g_iconst (q := 17) dX7_audit_16 rfl ⟨by decide, by decide⟩ ?_
    refine g_istore_n (i := 2) (q := 18) dX7_audit_17 rfl rfl (by decide) ?_
    refine g_iconst (q := 19) dX7_audit_18 rfl ⟨by decide, by decide⟩ ?_
    refine g_istore_n (i := 3) (q := 20) dX7_audit_19 rfl rfl (by decide) ?_
    exact l_X7_audit (S := z_sS S 5 0) rfl hf (hk f hf.1 hf.2) (by unfold p_audit; rw [if_neg (by omega)]; exact ⟨rfl, rfl⟩) 200 0 0 (by omega) rfl
  · skip
    refine g_aload_n (i := 0) (q := 1) dX7_audit_0 rfl rfl rfl ?_
    refine g_iload_n (i := 1) (q := 2) dX7_audit_1 rfl rfl rfl ?_
    refine g_fnS (as := [zI f]) (q := 5) (u' := 0) dX7_audit_2 rfl ck_X7_98 rfl rfl (Nat.le_of_ble_eq_true rfl) (by decide) rfl (by decide) (t_isFirm_f hf) rfl ?_
    refine g_if_eq (t := 12) (q := 8) dX7_audit_5 (by decide) rfl (fun h5 => ?_) (fun h5 => (False.elim (by omega)))
    refine g_iconst (q := 13) dX7_audit_12 rfl ⟨by decide, by decide⟩ ?_
    refine g_put (q := 16) dX7_audit_13 rfl fk_X7_80 fp_7_0 rfl rfl ?_
    refine g_iconst (q := 17) dX7_audit_16 rfl ⟨by decide, by decide⟩ ?_
    refine g_istore_n (i := 2) (q := 18) dX7_audit_17 rfl rfl (by decide) ?_
    refine g_iconst (q := 19) dX7_audit_18 rfl ⟨by decide, by decide⟩ ?_
    refine g_istore_n (i := 3) (q := 20) dX7_audit_19 rfl rfl (by decide) ?_
    refine g_iload_n (i := 3) (q := 21) dX7_audit_20 rfl rfl rfl ?_
    refine g_sipush (q := 24) dX7_audit_21 rfl ⟨by decide, by decide⟩ (by decide) ?_
    refine g_icmp_ge (t := 73) (q := 27) dX7_audit_24 (by decide) rfl (fun h24 => (False.elim (by omega))) (fun h24 => ?_)
    refine g_aload_n (i := 0) (q := 28) dX7_audit_27 rfl rfl rfl ?_
    refine g_getv (q := 31) (z := 1) dX7_audit_28 rfl fk_X7_80 rfl rfl rfl ?_
    refine g_if_ne (t := 73) (q := 34) dX7_audit_31 (by decide) rfl (fun h31 => ?_) (fun h31 => (False.elim (by omega)))
    refine g_iload_n (i := 2) (q := 74) dX7_audit_73 rfl rfl rfl ?_
    exact g_ret dX7_audit_74 rfl (by decide) (by unfold p_audit; (repeat (first | rw [if_pos (by omega)] | rw [if_neg (by omega)])); exact ⟨rfl, rfl⟩)
theorem y_gs_len {n w h : Int} : ∀ (k i : Nat) (S : zS), i + k = 7 → yT S n h i → ∃ j : Nat, (1 ≤ j ∧ j ≤ 7) ∧ (y_gs S n w h i k).1.1 9 = j ∧ (∀ x : Int, 0 ≤ x → x < j → 0 ≤ (y_gs S n w h i k).1.2.1 62 x ∧ (y_gs S n w h i k).1.2.1 62 x < 6) ∧ (∀ q, q ≠ 9 → (y_gs S n w h i k).1.1 q = S.1 q) ∧ (∀ q x, q ≠ 62 → (y_gs S n w h i k).1.2.1 q x = S.2.1 q x) ∧ (y_gs S n w h i k).1.2.2 = S.2.2
  | 0, i, S, hi, T => by
    obtain ⟨t1, t2, t3, t4, t5, t6, t7, t8, t9, t10⟩ := T
    exact ⟨i, by omega, t1, t8, fun _ _ => rfl, fun _ _ _ => rfl, rfl⟩
  | k + 1, i, S, hi, T => by
    have hnx := y_nx_rng (w := w) T
    obtain ⟨t1, t2, t3, t4, t5, t6, t7, t8, t9, t10⟩ := id T
    have g1 : ∀ x, (∀ q, q ≠ 9 → (y_ht S x).1 q = S.1 q) ∧ (∀ q j, q ≠ 62 → (y_ht S x).2.1 q j = S.2.1 q j) := fun x => ⟨fun q hq => by unfold y_ht; rw [zv_sS, if_neg hq]; rfl, fun q j hq => y_ht_ne hq⟩
    rw [y_gs]
    split
    · exact ⟨i, by omega, t1, t8, fun _ _ => rfl, fun _ _ _ => rfl, rfl⟩
    · split
      · exact ⟨i, by omega, t1, t8, fun _ _ => rfl, fun _ _ _ => rfl, rfl⟩
      · split
        · exact ⟨i, by omega, t1, t8, fun _ _ => rfl, fun _ _ _ => rfl, rfl⟩
        · split
          · refine ⟨i + 1, by omega, show S.1 9 + 1 = _ by omega, fun x a b => ?_, (g1 _).1, (g1 _).2, rfl⟩
            show 0 ≤ (y_ht S (y_nx S n w h i)).2.1 62 x ∧ (y_ht S (y_nx S n w h i)).2.1 62 x < 6
            rw [y_ht_62]
            split
            · exact hnx
            · exact t8 x a (by omega)
          · next e =>
            have hwr := y_wh_rng S (y_nx S n w h i) i
            obtain ⟨j, h1, h2, h3, h4, h5, h6⟩ := y_gs_len (n := n) (w := w) (h := h) k (i + 1) _ (by omega) (yT_ht T (by omega) hnx (by omega))
            exact ⟨j, h1, h2, h3, fun q hq => by rw [h4 q hq, (g1 _).1 q hq], fun q x hq => by rw [h5 q x hq, (g1 _).2 q x hq], h6⟩
theorem y_tc_fr {S : zS} {f n w : Int} (hf : 0 ≤ f ∧ f < 6) (hn : 0 ≤ n ∧ n < 200) (C : yC S) : (∀ q, q ≠ 9 → (y_tc S f n w).1.1 q = S.1 q) ∧ (∀ q x, q ≠ 62 → (y_tc S f n w).1.2.1 q x = S.2.1 q x) ∧ (y_tc S f n w).1.2.2 = S.2.2 ∧ (1 ≤ (y_tc S f n w).1.1 9 ∧ (y_tc S f n w).1.1 9 ≤ 7) ∧ (∀ j : Int, 0 ≤ j → j < (y_tc S f n w).1.1 9 → 0 ≤ (y_tc S f n w).1.2.1 62 j ∧ (y_tc S f n w).1.2.1 62 j < 6) := by
  have hh := C.2.2.2 (n / 10) (by omega) (by omega)
  have g1 : ∀ x, (∀ q, q ≠ 9 → (y_hb S x).1 q = S.1 q) ∧ (∀ q j, q ≠ 62 → (y_hb S x).2.1 q j = S.2.1 q j) := fun x => ⟨fun q hq => by unfold y_hb y_ht; rw [zv_sS, if_neg hq, zv_sA, zv_sS, if_neg hq], fun q j hq => y_hb_ne hq⟩
  have g0 : ∀ j : Int, 0 ≤ j → j < (y_hb S f).1 9 → 0 ≤ (y_hb S f).2.1 62 j ∧ (y_hb S f).2.1 62 j < 6 := fun j a b => by
    have b1 : j < 1 := b
    have e : j = 0 := by omega
    subst e
    rw [y_hb_62]
    exact hf
  unfold y_tc
  split
  · exact ⟨(g1 f).1, (g1 f).2, rfl, by show 1 ≤ (1 : Int) ∧ (1 : Int) ≤ 7; omega, g0⟩
  · split
    · split
      · exact ⟨(g1 f).1, (g1 f).2, rfl, by show 1 ≤ (1 : Int) ∧ (1 : Int) ≤ 7; omega, g0⟩
      · refine ⟨fun q hq => ?_, fun q x hq => ?_, rfl, by show 1 ≤ (1 + 1 : Int) ∧ (1 + 1 : Int) ≤ 7; omega, fun j a b => ?_⟩
        · unfold y_ht
          rw [zv_sS, if_neg hq]
          exact (g1 f).1 q hq
        · show (y_ht (y_hb S f) (S.2.1 40 (n / 10))).2.1 q x = _
          rw [y_ht_ne hq]
          exact (g1 f).2 q x hq
        · have b1 : j < 1 + 1 := b
          show 0 ≤ (y_ht (y_hb S f) (S.2.1 40 (n / 10))).2.1 62 j ∧ (y_ht (y_hb S f) (S.2.1 40 (n / 10))).2.1 62 j < 6
          rw [y_ht_62]
          have e : (y_hb S f).1 9 = 1 := rfl
          rw [e]
          split
          · omega
          · exact g0 j a (by rw [e]; omega)
    · obtain ⟨j, h1, h2, h3, h4, h5, h6⟩ := y_gs_len (w := w) 6 1 _ (by omega) (yT_hb C hf hn (by omega))
      exact ⟨fun q hq => by rw [h4 q hq, (g1 f).1 q hq], fun q x hq => by rw [h5 q x hq, (g1 f).2 q x hq], h6, by omega, fun x a b => h3 x a (by omega)⟩
def y_hop (S : zS) (p : Int) : Int := if p < S.1 9 then S.2.1 62 p else -1
def p_hop (S : zS) (f n w p : Int) : Int × zS := if ¬ ((0 ≤ f ∧ f < 6) ∧ (0 ≤ n ∧ n < 200) ∧ 0 ≤ p) then (0, z_sS S 5 1) else if ¬ (0 ≤ w ∧ w ≤ 2) then (0, z_sS S 5 2) else (y_hop (y_tc (z_sS S 5 0) f n w).1 p, (y_tc (z_sS S 5 0) f n w).1)
theorem t_hop {S : zS} {f n w p : Int} (C : yC S) : z_Ret mX7_hop [zR 7, zI f, zI n, zI w, zI p] S (p_hop S f n w p) := by
  have hC : yC (z_sS S 5 0) := ⟨C.1, fun n k => by rw [y_last_cong (S := S) (T := z_sS S 5 0) (fun _ => rfl) (fun _ => rfl)]; exact C.2.1 n k, C.2.2⟩
  refine z_enter (by decide +kernel) rfl (z_n1 trivial (z_n1 trivial (z_n1 trivial (z_n1 trivial (z_n1 trivial z_n0))))) (Nat.le_of_ble_eq_true rfl) ?_
  refine g_iload_n (i := 1) (q := 1) dX7_hop_0 rfl rfl rfl ?_
  by_cases c1 : 0 ≤ f ∧ f < 6
  · refine g_fnS (as := [zI f]) (q := 4) (u' := 0) dX7_hop_1 rfl ck_X7_98 rfl rfl (Nat.le_of_ble_eq_true rfl) (by decide) rfl (by decide) (t_isFirm_t c1) rfl ?_
    refine g_if_eq (t := 23) (q := 7) dX7_hop_4 (by decide) rfl (fun h4 => (False.elim (by omega))) (fun h4 => ?_)
    refine g_iload_n (i := 2) (q := 8) dX7_hop_7 rfl rfl rfl ?_
    by_cases c8 : 0 ≤ n ∧ n < 200
    · refine g_fnS (as := [zI n]) (q := 11) (u' := 0) dX7_hop_8 rfl ck_X7_108 rfl rfl (Nat.le_of_ble_eq_true rfl) (by decide) rfl (by decide) (t_isNumber_t c8) rfl ?_
      refine g_if_eq (t := 23) (q := 14) dX7_hop_11 (by decide) rfl (fun h11 => (False.elim (by omega))) (fun h11 => ?_)
      refine g_iload (q := 16) dX7_hop_14 rfl rfl ?_
      refine g_if_lt (t := 23) (q := 19) dX7_hop_16 (by decide) rfl (fun h16 => ?_) (fun h16 => ?_)
      · refine g_iconst (q := 24) dX7_hop_23 rfl ⟨by decide, by decide⟩ ?_
        refine g_istore (q := 26) dX7_hop_24 rfl (by decide) ?_
        refine g_aload_n (i := 0) (q := 27) dX7_hop_26 rfl rfl rfl ?_
        refine g_iload (q := 29) dX7_hop_27 rfl rfl ?_
        refine g_if_ne (t := 36) (q := 32) dX7_hop_29 (by decide) rfl (fun h29 => (False.elim (by omega))) (fun h29 => ?_)
        refine g_iconst (q := 33) dX7_hop_32 rfl ⟨by decide, by decide⟩ ?_
        refine g_goto (q := 0) (t := 50) dX7_hop_33 (by decide) ?_
        refine g_put (q := 53) dX7_hop_50 rfl fk_X7_80 fp_7_0 rfl rfl ?_
        refine g_aload_n (i := 0) (q := 54) dX7_hop_53 rfl rfl rfl ?_
        refine g_getv (q := 57) (z := 1) dX7_hop_54 rfl fk_X7_80 rfl rfl rfl ?_
        refine g_if_le (t := 62) (q := 60) dX7_hop_57 (by decide) rfl (fun h57 => (False.elim (by omega))) (fun h57 => ?_)
        refine g_iconst (q := 61) dX7_hop_60 rfl ⟨by decide, by decide⟩ ?_
        exact g_ret dX7_hop_61 rfl (by decide) (by unfold p_hop; (repeat (first | rw [if_pos (by omega)] | rw [if_neg (by omega)])); exact ⟨rfl, rfl⟩)
      · refine g_iconst (q := 20) dX7_hop_19 rfl ⟨by decide, by decide⟩ ?_
        refine g_goto (q := 0) (t := 24) dX7_hop_20 (by decide) ?_
        refine g_istore (q := 26) dX7_hop_24 rfl (by decide) ?_
        refine g_aload_n (i := 0) (q := 27) dX7_hop_26 rfl rfl rfl ?_
        refine g_iload (q := 29) dX7_hop_27 rfl rfl ?_
        refine g_if_ne (t := 36) (q := 32) dX7_hop_29 (by decide) rfl (fun h29 => ?_) (fun h29 => (False.elim (by omega)))
        refine g_iload_n (i := 3) (q := 37) dX7_hop_36 rfl rfl rfl ?_
        refine g_iconst (q := 38) dX7_hop_37 rfl ⟨by decide, by decide⟩ ?_
        refine g_iconst (q := 39) dX7_hop_38 rfl ⟨by decide, by decide⟩ ?_
        by_cases c39 : 0 ≤ w ∧ w ≤ 2
        · refine g_fnS (as := [zI w, zI 0, zI 2]) (q := 42) (u' := 0) dX7_hop_39 rfl ck_X7_84 rfl rfl (Nat.le_of_ble_eq_true rfl) (by decide) rfl (by decide) (t_in_t c39) rfl ?_
          refine g_if_eq (t := 49) (q := 45) dX7_hop_42 (by decide) rfl (fun h42 => (False.elim (by omega))) (fun h42 => ?_)
          refine g_iconst (q := 46) dX7_hop_45 rfl ⟨by decide, by decide⟩ ?_
          refine g_goto (q := 0) (t := 50) dX7_hop_46 (by decide) ?_
          refine g_put (q := 53) dX7_hop_50 rfl fk_X7_80 fp_7_0 rfl rfl ?_
          refine g_aload_n (i := 0) (q := 54) dX7_hop_53 rfl rfl rfl ?_
          refine g_getv (q := 57) (z := 0) dX7_hop_54 rfl fk_X7_80 rfl rfl rfl ?_
          refine g_if_le (t := 62) (q := 60) dX7_hop_57 (by decide) rfl (fun h57 => ?_) (fun h57 => (False.elim (by omega)))
          refine g_aload_n (i := 0) (q := 63) dX7_hop_62 rfl rfl rfl ?_
          refine g_iload_n (i := 1) (q := 64) dX7_hop_63 rfl rfl rfl ?_
          refine g_iload_n (i := 2) (q := 65) dX7_hop_64 rfl rfl rfl ?_
          refine g_iload_n (i := 3) (q := 66) dX7_hop_65 rfl rfl rfl ?_
          have hfr := y_tc_fr (S := z_sS S 5 0) (w := w) (f := f) (n := n) (by omega) (by omega) hC
          refine g_fnV (as := [zI f, zI n, zI w]) (q := 69) (u' := 0) dX7_hop_66 rfl ck_X7_188 rfl rfl rfl (Nat.le_of_ble_eq_true rfl) (by decide) rfl (by decide) (t_callsTo (S := z_sS S 5 0) hC (by omega) (by omega)) rfl ?_
          refine g_pop (q := 70) dX7_hop_69 rfl trivial ?_
          refine g_iload (q := 72) dX7_hop_70 rfl rfl ?_
          refine g_aload_n (i := 0) (q := 73) dX7_hop_72 rfl rfl rfl ?_
          refine g_getv (q := 76) (z := ((y_tc (z_sS S 5 0) f n w).1).1 9) dX7_hop_73 rfl fk_X7_176 rfl rfl rfl ?_
          refine g_icmp_ge (t := 89) (q := 79) dX7_hop_76 (by decide) rfl (fun h76 => ?_) (fun h76 => ?_)
          · refine g_iconst (q := 90) dX7_hop_89 rfl ⟨by decide, by decide⟩ ?_
            exact g_ret dX7_hop_90 rfl (by decide) (by unfold p_hop y_hop; (repeat (first | rw [if_pos (by omega)] | rw [if_neg (by omega)])); exact ⟨rfl, rfl⟩)
          · refine g_aload_n (i := 0) (q := 80) dX7_hop_79 rfl rfl rfl ?_
            refine g_getr (q := 83) dX7_hop_80 rfl fk_X7_77 rfl rfl ?_
            refine g_iload (q := 85) dX7_hop_83 rfl rfl ?_
            refine g_ildv (q := 86) (z := ((y_tc (z_sS S 5 0) f n w).1).2.1 62 p) dX7_hop_85 rfl ⟨by decide, rfl, rfl⟩ (by omega) (by omega) rfl ?_
            refine g_goto (q := 0) (t := 90) dX7_hop_86 (by decide) ?_
            exact g_ret dX7_hop_90 rfl (by decide) (by unfold p_hop y_hop; (repeat (first | rw [if_pos (by omega)] | rw [if_neg (by omega)])); exact ⟨rfl, rfl⟩)
        · refine g_fnS (as := [zI w, zI 0, zI 2]) (q := 42) (u' := 0) dX7_hop_39 rfl ck_X7_84 rfl rfl (Nat.le_of_ble_eq_true rfl) (by decide) rfl (by decide) (t_in_f c39) rfl ?_
          refine g_if_eq (t := 49) (q := 45) dX7_hop_42 (by decide) rfl (fun h42 => ?_) (fun h42 => (False.elim (by omega)))
          refine g_iconst (q := 50) dX7_hop_49 rfl ⟨by decide, by decide⟩ ?_
          refine g_put (q := 53) dX7_hop_50 rfl fk_X7_80 fp_7_0 rfl rfl ?_
          refine g_aload_n (i := 0) (q := 54) dX7_hop_53 rfl rfl rfl ?_
          refine g_getv (q := 57) (z := 2) dX7_hop_54 rfl fk_X7_80 rfl rfl rfl ?_
          refine g_if_le (t := 62) (q := 60) dX7_hop_57 (by decide) rfl (fun h57 => (False.elim (by omega))) (fun h57 => ?_)
          refine g_iconst (q := 61) dX7_hop_60 rfl ⟨by decide, by decide⟩ ?_
          exact g_ret dX7_hop_61 rfl (by decide) (by unfold p_hop; (repeat (first | rw [if_pos (by omega)] | rw [if_neg (by omega)])); exact ⟨rfl, rfl⟩)
    · refine g_fnS (as := [zI n]) (q := 11) (u' := 0) dX7_hop_8 rfl ck_X7_108 rfl rfl (Nat.le_of_ble_eq_true rfl) (by decide) rfl (by decide) (t_isNumber_f c8) rfl ?_
      refine g_if_eq (t := 23) (q := 14) dX7_hop_11 (by decide) rfl (fun h11 => ?_) (fun h11 => (False.elim (by omega)))
      refine g_iconst (q := 24) dX7_hop_23 rfl ⟨by decide, by decide⟩ ?_
      refine g_istore (q := 26) dX7_hop_24 rfl (by decide) ?_
      refine g_aload_n (i := 0) (q := 27) dX7_hop_26 rfl rfl rfl ?_
      refine g_iload (q := 29) dX7_hop_27 rfl rfl ?_
      refine g_if_ne (t := 36) (q := 32) dX7_hop_29 (by decide) rfl (fun h29 => (False.elim (by omega))) (fun h29 => ?_)
      refine g_iconst (q := 33) dX7_hop_32 rfl ⟨by decide, by decide⟩ ?_
      refine g_goto (q := 0) (t := 50) dX7_hop_33 (by decide) ?_
      refine g_put (q := 53) dX7_hop_50 rfl fk_X7_80 fp_7_0 rfl rfl ?_
      refine g_aload_n (i := 0) (q := 54) dX7_hop_53 rfl rfl rfl ?_
      refine g_getv (q := 57) (z := 1) dX7_hop_54 rfl fk_X7_80 rfl rfl rfl ?_
      refine g_if_le (t := 62) (q := 60) dX7_hop_57 (by decide) rfl (fun h57 => (False.elim (by omega))) (fun h57 => ?_)
      refine g_iconst (q := 61) dX7_hop_60 rfl ⟨by decide, by decide⟩ ?_
      exact g_ret dX7_hop_61 rfl (by decide) (by unfold p_hop; (repeat (first | rw [if_pos (by omega)] | rw [if_neg (by omega)])); exact ⟨rfl, rfl⟩)
  · refine g_fnS (as := [zI f]) (q := 4) (u' := 0) dX7_hop_1 rfl ck_X7_98 rfl rfl (Nat.le_of_ble_eq_true rfl) (by decide) rfl (by decide) (t_isFirm_f c1) rfl ?_
    refine g_if_eq (t := 23) (q := 7) dX7_hop_4 (by decide) rfl (fun h4 => ?_) (fun h4 => (False.elim (by omega)))
    refine g_iconst (q := 24) dX7_hop_23 rfl ⟨by decide, by decide⟩ ?_
    refine g_istore (q := 26) dX7_hop_24 rfl (by decide) ?_
    refine g_aload_n (i := 0) (q := 27) dX7_hop_26 rfl rfl rfl ?_
    refine g_iload (q := 29) dX7_hop_27 rfl rfl ?_
    refine g_if_ne (t := 36) (q := 32) dX7_hop_29 (by decide) rfl (fun h29 => (False.elim (by omega))) (fun h29 => ?_)
    refine g_iconst (q := 33) dX7_hop_32 rfl ⟨by decide, by decide⟩ ?_
    refine g_goto (q := 0) (t := 50) dX7_hop_33 (by decide) ?_
    refine g_put (q := 53) dX7_hop_50 rfl fk_X7_80 fp_7_0 rfl rfl ?_
    refine g_aload_n (i := 0) (q := 54) dX7_hop_53 rfl rfl rfl ?_
    refine g_getv (q := 57) (z := 1) dX7_hop_54 rfl fk_X7_80 rfl rfl rfl ?_
    refine g_if_le (t := 62) (q := 60) dX7_hop_57 (by decide) rfl (fun h57 => (False.elim (by omega))) (fun h57 => ?_)
    refine g_iconst (q := 61) dX7_hop_60 rfl ⟨by decide, by decide⟩ ?_
    exact g_ret dX7_hop_61 rfl (by decide) (by unfold p_hop; (repeat (first | rw [if_pos (by omega)] | rw [if_neg (by omega)])); exact ⟨rfl, rfl⟩)
def p_why (S : zS) (f n w : Int) : Int × zS := if ¬ ((0 ≤ f ∧ f < 6) ∧ (0 ≤ n ∧ n < 200)) then (0, z_sS S 5 1) else if ¬ (0 ≤ w ∧ w ≤ 2) then (0, z_sS S 5 2) else ((y_tc (z_sS S 5 0) f n w).2, (y_tc (z_sS S 5 0) f n w).1)
theorem t_why {S : zS} {f n w : Int} (C : yC S) : z_Ret mX7_why [zR 7, zI f, zI n, zI w] S (p_why S f n w) := by
  have hC : yC (z_sS S 5 0) := ⟨C.1, fun n k => by rw [y_last_cong (S := S) (T := z_sS S 5 0) (fun _ => rfl) (fun _ => rfl)]; exact C.2.1 n k, C.2.2⟩
  refine z_enter (by decide +kernel) rfl (z_n1 trivial (z_n1 trivial (z_n1 trivial (z_n1 trivial z_n0)))) (Nat.le_of_ble_eq_true rfl) ?_
  refine g_aload_n (i := 0) (q := 1) dX7_why_0 rfl rfl rfl ?_
  refine g_iload_n (i := 1) (q := 2) dX7_why_1 rfl rfl rfl ?_
  by_cases c2 : 0 ≤ f ∧ f < 6
  · refine g_fnS (as := [zI f]) (q := 5) (u' := 0) dX7_why_2 rfl ck_X7_98 rfl rfl (Nat.le_of_ble_eq_true rfl) (by decide) rfl (by decide) (t_isFirm_t c2) rfl ?_
    refine g_if_eq (t := 15) (q := 8) dX7_why_5 (by decide) rfl (fun h5 => (False.elim (by omega))) (fun h5 => ?_)
    refine g_iload_n (i := 2) (q := 9) dX7_why_8 rfl rfl rfl ?_
    by_cases c9 : 0 ≤ n ∧ n < 200
    · refine g_fnS (as := [zI n]) (q := 12) (u' := 0) dX7_why_9 rfl ck_X7_108 rfl rfl (Nat.le_of_ble_eq_true rfl) (by decide) rfl (by decide) (t_isNumber_t c9) rfl ?_
      refine g_if_ne (t := 19) (q := 15) dX7_why_12 (by decide) rfl (fun h12 => ?_) (fun h12 => (False.elim (by omega)))
      refine g_iload_n (i := 3) (q := 20) dX7_why_19 rfl rfl rfl ?_
      refine g_iconst (q := 21) dX7_why_20 rfl ⟨by decide, by decide⟩ ?_
      refine g_iconst (q := 22) dX7_why_21 rfl ⟨by decide, by decide⟩ ?_
      by_cases c22 : 0 ≤ w ∧ w ≤ 2
      · refine g_fnS (as := [zI w, zI 0, zI 2]) (q := 25) (u' := 0) dX7_why_22 rfl ck_X7_84 rfl rfl (Nat.le_of_ble_eq_true rfl) (by decide) rfl (by decide) (t_in_t c22) rfl ?_
        refine g_if_eq (t := 32) (q := 28) dX7_why_25 (by decide) rfl (fun h25 => (False.elim (by omega))) (fun h25 => ?_)
        refine g_iconst (q := 29) dX7_why_28 rfl ⟨by decide, by decide⟩ ?_
        refine g_goto (q := 0) (t := 33) dX7_why_29 (by decide) ?_
        refine g_put (q := 36) dX7_why_33 rfl fk_X7_80 fp_7_0 rfl rfl ?_
        refine g_aload_n (i := 0) (q := 37) dX7_why_36 rfl rfl rfl ?_
        refine g_getv (q := 40) (z := 0) dX7_why_37 rfl fk_X7_80 rfl rfl rfl ?_
        refine g_if_le (t := 47) (q := 43) dX7_why_40 (by decide) rfl (fun h40 => ?_) (fun h40 => (False.elim (by omega)))
        refine g_aload_n (i := 0) (q := 48) dX7_why_47 rfl rfl rfl ?_
        refine g_iload_n (i := 1) (q := 49) dX7_why_48 rfl rfl rfl ?_
        refine g_iload_n (i := 2) (q := 50) dX7_why_49 rfl rfl rfl ?_
        refine g_iload_n (i := 3) (q := 51) dX7_why_50 rfl rfl rfl ?_
        refine g_fnV (as := [zI f, zI n, zI w]) (q := 54) (u' := 0) dX7_why_51 rfl ck_X7_188 rfl rfl rfl (Nat.le_of_ble_eq_true rfl) (by decide) rfl (by decide) (t_callsTo (S := z_sS S 5 0) hC (by omega) (by omega)) rfl ?_
        exact g_ret dX7_why_54 rfl (by decide) (by unfold p_why; (repeat (first | rw [if_pos (by omega)] | rw [if_neg (by omega)])); exact ⟨rfl, rfl⟩)
      · refine g_fnS (as := [zI w, zI 0, zI 2]) (q := 25) (u' := 0) dX7_why_22 rfl ck_X7_84 rfl rfl (Nat.le_of_ble_eq_true rfl) (by decide) rfl (by decide) (t_in_f c22) rfl ?_
        refine g_if_eq (t := 32) (q := 28) dX7_why_25 (by decide) rfl (fun h25 => ?_) (fun h25 => (False.elim (by omega)))
        refine g_iconst (q := 33) dX7_why_32 rfl ⟨by decide, by decide⟩ ?_
        refine g_put (q := 36) dX7_why_33 rfl fk_X7_80 fp_7_0 rfl rfl ?_
        refine g_aload_n (i := 0) (q := 37) dX7_why_36 rfl rfl rfl ?_
        refine g_getv (q := 40) (z := 2) dX7_why_37 rfl fk_X7_80 rfl rfl rfl ?_
        refine g_if_le (t := 47) (q := 43) dX7_why_40 (by decide) rfl (fun h40 => (False.elim (by omega))) (fun h40 => ?_)
        refine g_iconst (q := 44) dX7_why_43 rfl ⟨by decide, by decide⟩ ?_
        refine g_goto (q := 0) (t := 54) dX7_why_44 (by decide) ?_
        exact g_ret dX7_why_54 rfl (by decide) (by unfold p_why; (repeat (first | rw [if_pos (by omega)] | rw [if_neg (by omega)])); exact ⟨rfl, rfl⟩)
    · refine g_fnS (as := [zI n]) (q := 12) (u' := 0) dX7_why_9 rfl ck_X7_108 rfl rfl (Nat.le_of_ble_eq_true rfl) (by decide) rfl (by decide) (t_isNumber_f c9) rfl ?_
      refine g_if_ne (t := 19) (q := 15) dX7_why_12 (by decide) rfl (fun h12 => (False.elim (by omega))) (fun h12 => ?_)
      refine g_iconst (q := 16) dX7_why_15 rfl ⟨by decide, by decide⟩ ?_
      refine g_goto (q := 0) (t := 33) dX7_why_16 (by decide) ?_
      refine g_put (q := 36) dX7_why_33 rfl fk_X7_80 fp_7_0 rfl rfl ?_
      refine g_aload_n (i := 0) (q := 37) dX7_why_36 rfl rfl rfl ?_
      refine g_getv (q := 40) (z := 1) dX7_why_37 rfl fk_X7_80 rfl rfl rfl ?_
      refine g_if_le (t := 47) (q := 43) dX7_why_40 (by decide) rfl (fun h40 => (False.elim (by omega))) (fun h40 => ?_)
      refine g_iconst (q := 44) dX7_why_43 rfl ⟨by decide, by decide⟩ ?_
      refine g_goto (q := 0) (t := 54) dX7_why_44 (by decide) ?_
      exact g_ret dX7_why_54 rfl (by decide) (by unfold p_why; (repeat (first | rw [if_pos (by omega)] | rw [if_neg (by omega)])); exact ⟨rfl, rfl⟩)
  · refine g_fnS (as := [zI f]) (q := 5) (u' := 0) dX7_why_2 rfl ck_X7_98 rfl rfl (Nat.le_of_ble_eq_true rfl) (by decide) rfl (by decide) (t_isFirm_f c2) rfl ?_
    refine g_if_eq (t := 15) (q := 8) dX7_why_5 (by decide) rfl (fun h5 => ?_) (fun h5 => (False.elim (by omega)))
    refine g_iconst (q := 16) dX7_why_15 rfl ⟨by decide, by decide⟩ ?_
    refine g_goto (q := 0) (t := 33) dX7_why_16 (by decide) ?_
    refine g_put (q := 36) dX7_why_33 rfl fk_X7_80 fp_7_0 rfl rfl ?_
    refine g_aload_n (i := 0) (q := 37) dX7_why_36 rfl rfl rfl ?_
    refine g_getv (q := 40) (z := 1) dX7_why_37 rfl fk_X7_80 rfl rfl rfl ?_
    refine g_if_le (t := 47) (q := 43) dX7_why_40 (by decide) rfl (fun h40 => (False.elim (by omega))) (fun h40 => ?_)
    refine g_iconst (q := 44) dX7_why_43 rfl ⟨by decide, by decide⟩ ?_
    refine g_goto (q := 0) (t := 54) dX7_why_44 (by decide) ?_
    exact g_ret dX7_why_54 rfl (by decide) (by unfold p_why; (repeat (first | rw [if_pos (by omega)] | rw [if_neg (by omega)])); exact ⟨rfl, rfl⟩)
def y_pfl (S : zS) (len : Nat) : Nat → Nat → zS
  | _, 0 => S
  | i, k + 1 => y_pfl (y_pay S (S.2.1 62 0) (S.2.1 62 i) (if i + 1 = len then 3 else 1)) len (i + 1) k
theorem y_pay_62 {S : zS} {p t m j : Int} : (y_pay S p t m).2.1 62 j = S.2.1 62 j := by
  unfold y_pay
  rw [za_ne (by omega), za_ne (by omega)]
theorem l_X7_dial {Q : zQ} {a n w x : Int} {v4 : Option zV} {len : Nat} (h7 : len ≤ 7) : ∀ (k i : Nat) (S : zS), i + k = len → S.1 9 = len → (∀ j : Int, 0 ≤ j → j < len → 0 ≤ S.2.1 62 j ∧ S.2.1 62 j < 6) → 1 ≤ i → x = 0 → Q (.ok (some (zI x))) (y_pfl S len i k) → z_G mX7_dial (z_F mX7_dial Q) 0 88 [some (zR 7), some (zI a), some (zI n), some (zI w), v4, some (zI x), some (zI (i : Int))] [] S := by
  intro k
  induction k with
  | zero =>
    intro i S hi hl hr h1 hx hQ
    refine g_iload (q := 90) dX7_dial_88 rfl rfl ?_
    refine g_aload_n (i := 0) (q := 91) dX7_dial_90 rfl rfl rfl ?_
    refine g_getv (q := 94) (z := S.1 9) dX7_dial_91 rfl fk_X7_176 rfl rfl rfl ?_
    refine g_icmp_ge (t := 141) (q := 97) dX7_dial_94 (by decide) rfl (fun h94 => ?_) (fun h94 => (False.elim (by omega)))
    refine g_iload (q := 143) dX7_dial_141 rfl rfl ?_
    exact g_ret dX7_dial_143 rfl (by decide) hQ
  | succ k ih =>
    intro i S hi hl hr h1 hx hQ
    have hr1 := hr (i : Int) (by omega) (by omega)
    have hr0 := hr 0 (by omega) (by omega)
    rw [y_pfl] at hQ
    by_cases e : i + 1 = len
    · rw [if_pos e] at hQ
      refine g_iload (q := 90) dX7_dial_88 rfl rfl ?_
      refine g_aload_n (i := 0) (q := 91) dX7_dial_90 rfl rfl rfl ?_
      refine g_getv (q := 94) (z := S.1 9) dX7_dial_91 rfl fk_X7_176 rfl rfl rfl ?_
      refine g_icmp_ge (t := 141) (q := 97) dX7_dial_94 (by decide) rfl (fun h94 => (False.elim (by omega))) (fun h94 => ?_)
      refine g_iload (q := 99) dX7_dial_97 rfl rfl ?_
      refine g_if_ne (t := 141) (q := 102) dX7_dial_99 (by decide) rfl (fun h99 => (False.elim (by omega))) (fun h99 => ?_)
      refine g_aload_n (i := 0) (q := 103) dX7_dial_102 rfl rfl rfl ?_
      refine g_aload_n (i := 0) (q := 104) dX7_dial_103 rfl rfl rfl ?_
      refine g_getr (q := 107) dX7_dial_104 rfl fk_X7_77 rfl rfl ?_
      refine g_iconst (q := 108) dX7_dial_107 rfl ⟨by decide, by decide⟩ ?_
      refine g_ildv (q := 109) (z := S.2.1 62 0) dX7_dial_108 rfl ⟨by decide, rfl, rfl⟩ (by omega) (by omega) rfl ?_
      refine g_aload_n (i := 0) (q := 110) dX7_dial_109 rfl rfl rfl ?_
      refine g_getr (q := 113) dX7_dial_110 rfl fk_X7_77 rfl rfl ?_
      refine g_iload (q := 115) dX7_dial_113 rfl rfl ?_
      refine g_ildv (q := 116) (z := S.2.1 62 (i : Int)) dX7_dial_115 rfl ⟨by decide, rfl, rfl⟩ (by omega) (by omega) rfl ?_
      refine g_iload (q := 118) dX7_dial_116 rfl rfl ?_
      refine g_aload_n (i := 0) (q := 119) dX7_dial_118 rfl rfl rfl ?_
      refine g_getv (q := 122) (z := S.1 9) dX7_dial_119 rfl fk_X7_176 rfl rfl rfl ?_
      refine g_iconst (q := 123) dX7_dial_122 rfl ⟨by decide, by decide⟩ ?_
      refine g_isub (q := 124) dX7_dial_123 rfl (by constructor <;> omega) ?_
      refine g_icmp_ne (t := 131) (q := 127) dX7_dial_124 (by decide) rfl (fun h124 => (False.elim (by omega))) (fun h124 => ?_)
      refine g_iconst (q := 128) dX7_dial_127 rfl ⟨by decide, by decide⟩ ?_
      refine g_goto (q := 0) (t := 132) dX7_dial_128 (by decide) ?_
      refine g_fnV (as := [zI (S.2.1 62 0), zI (S.2.1 62 (i : Int)), zI 3]) (q := 135) (u' := 0) dX7_dial_132 rfl ck_X7_146 rfl rfl rfl (Nat.le_of_ble_eq_true rfl) (by decide) rfl (by decide) (t_pays (by omega) (by omega)) rfl ?_
      refine g_iinc (q := 138) (i := 6) (n := 1) dX7_dial_135 rfl rfl (by constructor <;> omega) ?_
      refine g_goto (q := 0) (t := 88) dX7_dial_138 (by decide) ?_
      exact ih (i + 1) _ (by omega) hl (fun j a b => by rw [y_pay_62]; exact hr j a b) (by omega) hx hQ
    · rw [if_neg e] at hQ
      refine g_iload (q := 90) dX7_dial_88 rfl rfl ?_
      refine g_aload_n (i := 0) (q := 91) dX7_dial_90 rfl rfl rfl ?_
      refine g_getv (q := 94) (z := S.1 9) dX7_dial_91 rfl fk_X7_176 rfl rfl rfl ?_
      refine g_icmp_ge (t := 141) (q := 97) dX7_dial_94 (by decide) rfl (fun h94 => (False.elim (by omega))) (fun h94 => ?_)
      refine g_iload (q := 99) dX7_dial_97 rfl rfl ?_
      refine g_if_ne (t := 141) (q := 102) dX7_dial_99 (by decide) rfl (fun h99 => (False.elim (by omega))) (fun h99 => ?_)
      refine g_aload_n (i := 0) (q := 103) dX7_dial_102 rfl rfl rfl ?_
      refine g_aload_n (i := 0) (q := 104) dX7_dial_103 rfl rfl rfl ?_
      refine g_getr (q := 107) dX7_dial_104 rfl fk_X7_77 rfl rfl ?_
      refine g_iconst (q := 108) dX7_dial_107 rfl ⟨by decide, by decide⟩ ?_
      refine g_ildv (q := 109) (z := S.2.1 62 0) dX7_dial_108 rfl ⟨by decide, rfl, rfl⟩ (by omega) (by omega) rfl ?_
      refine g_aload_n (i := 0) (q := 110) dX7_dial_109 rfl rfl rfl ?_
      refine g_getr (q := 113) dX7_dial_110 rfl fk_X7_77 rfl rfl ?_
      refine g_iload (q := 115) dX7_dial_113 rfl rfl ?_
      refine g_ildv (q := 116) (z := S.2.1 62 (i : Int)) dX7_dial_115 rfl ⟨by decide, rfl, rfl⟩ (by omega) (by omega) rfl ?_
      refine g_iload (q := 118) dX7_dial_116 rfl rfl ?_
      refine g_aload_n (i := 0) (q := 119) dX7_dial_118 rfl rfl rfl ?_
      refine g_getv (q := 122) (z := S.1 9) dX7_dial_119 rfl fk_X7_176 rfl rfl rfl ?_
      refine g_iconst (q := 123) dX7_dial_122 rfl ⟨by decide, by decide⟩ ?_
      refine g_isub (q := 124) dX7_dial_123 rfl (by constructor <;> omega) ?_
      refine g_icmp_ne (t := 131) (q := 127) dX7_dial_124 (by decide) rfl (fun h124 => ?_) (fun h124 => (False.elim (by omega)))
      refine g_iconst (q := 132) dX7_dial_131 rfl ⟨by decide, by decide⟩ ?_
      refine g_fnV (as := [zI (S.2.1 62 0), zI (S.2.1 62 (i : Int)), zI 1]) (q := 135) (u' := 0) dX7_dial_132 rfl ck_X7_146 rfl rfl rfl (Nat.le_of_ble_eq_true rfl) (by decide) rfl (by decide) (t_pays (by omega) (by omega)) rfl ?_
      refine g_iinc (q := 138) (i := 6) (n := 1) dX7_dial_135 rfl rfl (by constructor <;> omega) ?_
      refine g_goto (q := 0) (t := 88) dX7_dial_138 (by decide) ?_
      exact ih (i + 1) _ (by omega) hl (fun j a b => by rw [y_pay_62]; exact hr j a b) (by omega) hx hQ
def y_pf (S : zS) : zS := y_pfl S (S.1 9).toNat 1 ((S.1 9).toNat - 1)
def p_dial (S : zS) (a n w : Int) : Int × zS := if ¬ ((0 ≤ a ∧ a < 200) ∧ (0 ≤ n ∧ n < 200)) then (0, z_sS S 5 1) else if ¬ (0 ≤ w ∧ w ≤ 2) then (0, z_sS S 5 2) else if S.2.1 42 a = -1 then (0, z_sS S 5 3) else ((y_tc (z_sS S 5 0) (S.2.1 42 a) n w).2, if (y_tc (z_sS S 5 0) (S.2.1 42 a) n w).2 = 0 then y_pf (y_tc (z_sS S 5 0) (S.2.1 42 a) n w).1 else (y_tc (z_sS S 5 0) (S.2.1 42 a) n w).1)
theorem t_dial {S : zS} {a n w : Int} (C : yC S) (hN : ∀ n : Int, 0 ≤ n → n < 200 → -1 ≤ S.2.1 42 n ∧ S.2.1 42 n < 6) : z_Ret mX7_dial [zR 7, zI a, zI n, zI w] S (p_dial S a n w) := by
  have hC : yC (z_sS S 5 0) := ⟨C.1, fun n k => by rw [y_last_cong (S := S) (T := z_sS S 5 0) (fun _ => rfl) (fun _ => rfl)]; exact C.2.1 n k, C.2.2⟩
  refine z_enter (by decide +kernel) rfl (z_n1 trivial (z_n1 trivial (z_n1 trivial (z_n1 trivial z_n0)))) (Nat.le_of_ble_eq_true rfl) ?_
  by_cases e : (y_tc (z_sS S 5 0) (S.2.1 42 a) n w).2 = 0
  · skip
    refine g_iload_n (i := 1) (q := 1) dX7_dial_0 rfl rfl rfl ?_
    by_cases c1 : 0 ≤ a ∧ a < 200
    · refine g_fnS (as := [zI a]) (q := 4) (u' := 0) dX7_dial_1 rfl ck_X7_108 rfl rfl (Nat.le_of_ble_eq_true rfl) (by decide) rfl (by decide) (t_isNumber_t c1) rfl ?_
      refine g_if_eq (t := 18) (q := 7) dX7_dial_4 (by decide) rfl (fun h4 => (False.elim (by omega))) (fun h4 => ?_)
      refine g_iload_n (i := 2) (q := 8) dX7_dial_7 rfl rfl rfl ?_
      by_cases c8 : 0 ≤ n ∧ n < 200
      · refine g_fnS (as := [zI n]) (q := 11) (u' := 0) dX7_dial_8 rfl ck_X7_108 rfl rfl (Nat.le_of_ble_eq_true rfl) (by decide) rfl (by decide) (t_isNumber_t c8) rfl ?_
        refine g_if_eq (t := 18) (q := 14) dX7_dial_11 (by decide) rfl (fun h11 => (False.elim (by omega))) (fun h11 => ?_)
        refine g_iconst (q := 15) dX7_dial_14 rfl ⟨by decide, by decide⟩ ?_
        refine g_goto (q := 0) (t := 19) dX7_dial_15 (by decide) ?_
        refine g_istore (q := 21) dX7_dial_19 rfl (by decide) ?_
        refine g_aload_n (i := 0) (q := 22) dX7_dial_21 rfl rfl rfl ?_
        refine g_iload (q := 24) dX7_dial_22 rfl rfl ?_
        refine g_if_ne (t := 31) (q := 27) dX7_dial_24 (by decide) rfl (fun h24 => ?_) (fun h24 => (False.elim (by omega)))
        refine g_iload_n (i := 3) (q := 32) dX7_dial_31 rfl rfl rfl ?_
        refine g_iconst (q := 33) dX7_dial_32 rfl ⟨by decide, by decide⟩ ?_
        refine g_iconst (q := 34) dX7_dial_33 rfl ⟨by decide, by decide⟩ ?_
        by_cases c34 : 0 ≤ w ∧ w ≤ 2
        · refine g_fnS (as := [zI w, zI 0, zI 2]) (q := 37) (u' := 0) dX7_dial_34 rfl ck_X7_84 rfl rfl (Nat.le_of_ble_eq_true rfl) (by decide) rfl (by decide) (t_in_t c34) rfl ?_
          refine g_if_ne (t := 44) (q := 40) dX7_dial_37 (by decide) rfl (fun h37 => ?_) (fun h37 => (False.elim (by omega)))
          refine g_aload_n (i := 0) (q := 45) dX7_dial_44 rfl rfl rfl ?_
          refine g_getr (q := 48) dX7_dial_45 rfl fk_X7_17 rfl rfl ?_
          refine g_iload_n (i := 1) (q := 49) dX7_dial_48 rfl rfl rfl ?_
          refine g_ildv (q := 50) (z := S.2.1 42 a) dX7_dial_49 rfl ⟨by decide, rfl, rfl⟩ (by omega) (by omega) rfl ?_
          refine g_iconst (q := 51) dX7_dial_50 rfl ⟨by decide, by decide⟩ ?_
          refine g_icmp_ne (t := 58) (q := 54) dX7_dial_51 (by decide) rfl (fun h51 => ?_) (fun h51 => ?_)
          · refine g_iconst (q := 59) dX7_dial_58 rfl ⟨by decide, by decide⟩ ?_
            refine g_put (q := 62) dX7_dial_59 rfl fk_X7_80 fp_7_0 rfl rfl ?_
            refine g_aload_n (i := 0) (q := 63) dX7_dial_62 rfl rfl rfl ?_
            refine g_getv (q := 66) (z := 0) dX7_dial_63 rfl fk_X7_80 rfl rfl rfl ?_
            refine g_if_le (t := 71) (q := 69) dX7_dial_66 (by decide) rfl (fun h66 => ?_) (fun h66 => (False.elim (by omega)))
            refine g_aload_n (i := 0) (q := 72) dX7_dial_71 rfl rfl rfl ?_
            refine g_aload_n (i := 0) (q := 73) dX7_dial_72 rfl rfl rfl ?_
            refine g_getr (q := 76) dX7_dial_73 rfl fk_X7_17 rfl rfl ?_
            refine g_iload_n (i := 1) (q := 77) dX7_dial_76 rfl rfl rfl ?_
            refine g_ildv (q := 78) (z := S.2.1 42 a) dX7_dial_77 rfl ⟨by decide, rfl, rfl⟩ (by omega) (by omega) rfl ?_
            refine g_iload_n (i := 2) (q := 79) dX7_dial_78 rfl rfl rfl ?_
            refine g_iload_n (i := 3) (q := 80) dX7_dial_79 rfl rfl rfl ?_
            have hNa := hN a (by omega) (by omega)
            have hfr := y_tc_fr (S := z_sS S 5 0) (w := w) (f := S.2.1 42 a) (n := n) (by omega) (by omega) hC
            refine g_fnV (as := [zI (S.2.1 42 a), zI n, zI w]) (q := 83) (u' := 0) dX7_dial_80 rfl ck_X7_188 rfl rfl rfl (Nat.le_of_ble_eq_true rfl) (by decide) rfl (by decide) (t_callsTo (S := z_sS S 5 0) hC (by omega) (by omega)) rfl ?_
            refine g_istore (q := 85) dX7_dial_83 rfl (by decide) ?_
            refine g_iconst (q := 86) dX7_dial_85 rfl ⟨by decide, by decide⟩ ?_
            refine g_istore (q := 88) dX7_dial_86 rfl (by decide) ?_
            exact l_X7_dial (len := ((y_tc (z_sS S 5 0) (S.2.1 42 a) n w).1.1 9).toNat) (by omega) (((y_tc (z_sS S 5 0) (S.2.1 42 a) n w).1.1 9).toNat - 1) 1 _ (by omega) (by omega) (fun j p q => hfr.2.2.2.2 j p (by omega)) (by omega) e (by unfold p_dial y_pf; (repeat (first | rw [if_pos (by omega)] | rw [if_neg (by omega)])); exact ⟨rfl, rfl⟩)
          · refine g_iconst (q := 55) dX7_dial_54 rfl ⟨by decide, by decide⟩ ?_
            refine g_goto (q := 0) (t := 59) dX7_dial_55 (by decide) ?_
            refine g_put (q := 62) dX7_dial_59 rfl fk_X7_80 fp_7_0 rfl rfl ?_
            refine g_aload_n (i := 0) (q := 63) dX7_dial_62 rfl rfl rfl ?_
            refine g_getv (q := 66) (z := 3) dX7_dial_63 rfl fk_X7_80 rfl rfl rfl ?_
            refine g_if_le (t := 71) (q := 69) dX7_dial_66 (by decide) rfl (fun h66 => (False.elim (by omega))) (fun h66 => ?_)
            refine g_iconst (q := 70) dX7_dial_69 rfl ⟨by decide, by decide⟩ ?_
            exact g_ret dX7_dial_70 rfl (by decide) (by unfold p_dial; (repeat (first | rw [if_pos (by omega)] | rw [if_neg (by omega)])); exact ⟨rfl, rfl⟩)
        · refine g_fnS (as := [zI w, zI 0, zI 2]) (q := 37) (u' := 0) dX7_dial_34 rfl ck_X7_84 rfl rfl (Nat.le_of_ble_eq_true rfl) (by decide) rfl (by decide) (t_in_f c34) rfl ?_
          refine g_if_ne (t := 44) (q := 40) dX7_dial_37 (by decide) rfl (fun h37 => (False.elim (by omega))) (fun h37 => ?_)
          refine g_iconst (q := 41) dX7_dial_40 rfl ⟨by decide, by decide⟩ ?_
          refine g_goto (q := 0) (t := 59) dX7_dial_41 (by decide) ?_
          refine g_put (q := 62) dX7_dial_59 rfl fk_X7_80 fp_7_0 rfl rfl ?_
          refine g_aload_n (i := 0) (q := 63) dX7_dial_62 rfl rfl rfl ?_
          refine g_getv (q := 66) (z := 2) dX7_dial_63 rfl fk_X7_80 rfl rfl rfl ?_
          refine g_if_le (t := 71) (q := 69) dX7_dial_66 (by decide) rfl (fun h66 => (False.elim (by omega))) (fun h66 => ?_)
          refine g_iconst (q := 70) dX7_dial_69 rfl ⟨by decide, by decide⟩ ?_
          exact g_ret dX7_dial_70 rfl (by decide) (by unfold p_dial; (repeat (first | rw [if_pos (by omega)] | rw [if_neg (by omega)])); exact ⟨rfl, rfl⟩)
      · refine g_fnS (as := [zI n]) (q := 11) (u' := 0) dX7_dial_8 rfl ck_X7_108 rfl rfl (Nat.le_of_ble_eq_true rfl) (by decide) rfl (by decide) (t_isNumber_f c8) rfl ?_
        refine g_if_eq (t := 18) (q := 14) dX7_dial_11 (by decide) rfl (fun h11 => ?_) (fun h11 => (False.elim (by omega)))
        refine g_iconst (q := 19) dX7_dial_18 rfl ⟨by decide, by decide⟩ ?_
        refine g_istore (q := 21) dX7_dial_19 rfl (by decide) ?_
        refine g_aload_n (i := 0) (q := 22) dX7_dial_21 rfl rfl rfl ?_
        refine g_iload (q := 24) dX7_dial_22 rfl rfl ?_
        refine g_if_ne (t := 31) (q := 27) dX7_dial_24 (by decide) rfl (fun h24 => (False.elim (by omega))) (fun h24 => ?_)
        refine g_iconst (q := 28) dX7_dial_27 rfl ⟨by decide, by decide⟩ ?_
        refine g_goto (q := 0) (t := 59) dX7_dial_28 (by decide) ?_
        refine g_put (q := 62) dX7_dial_59 rfl fk_X7_80 fp_7_0 rfl rfl ?_
        refine g_aload_n (i := 0) (q := 63) dX7_dial_62 rfl rfl rfl ?_
        refine g_getv (q := 66) (z := 1) dX7_dial_63 rfl fk_X7_80 rfl rfl rfl ?_
        refine g_if_le (t := 71) (q := 69) dX7_dial_66 (by decide) rfl (fun h66 => (False.elim (by omega))) (fun h66 => ?_)
        refine g_iconst (q := 70) dX7_dial_69 rfl ⟨by decide, by decide⟩ ?_
        exact g_ret dX7_dial_70 rfl (by decide) (by unfold p_dial; (repeat (first | rw [if_pos (by omega)] | rw [if_neg (by omega)])); exact ⟨rfl, rfl⟩)
    · refine g_fnS (as := [zI a]) (q := 4) (u' := 0) dX7_dial_1 rfl ck_X7_108 rfl rfl (Nat.le_of_ble_eq_true rfl) (by decide) rfl (by decide) (t_isNumber_f c1) rfl ?_
      refine g_if_eq (t := 18) (q := 7) dX7_dial_4 (by decide) rfl (fun h4 => ?_) (fun h4 => (False.elim (by omega)))
      refine g_iconst (q := 19) dX7_dial_18 rfl ⟨by decide, by decide⟩ ?_
      refine g_istore (q := 21) dX7_dial_19 rfl (by decide) ?_
      refine g_aload_n (i := 0) (q := 22) dX7_dial_21 rfl rfl rfl ?_
      refine g_iload (q := 24) dX7_dial_22 rfl rfl ?_
      refine g_if_ne (t := 31) (q := 27) dX7_dial_24 (by decide) rfl (fun h24 => (False.elim (by omega))) (fun h24 => ?_)
      refine g_iconst (q := 28) dX7_dial_27 rfl ⟨by decide, by decide⟩ ?_
      refine g_goto (q := 0) (t := 59) dX7_dial_28 (by decide) ?_
      refine g_put (q := 62) dX7_dial_59 rfl fk_X7_80 fp_7_0 rfl rfl ?_
      refine g_aload_n (i := 0) (q := 63) dX7_dial_62 rfl rfl rfl ?_
      refine g_getv (q := 66) (z := 1) dX7_dial_63 rfl fk_X7_80 rfl rfl rfl ?_
      refine g_if_le (t := 71) (q := 69) dX7_dial_66 (by decide) rfl (fun h66 => (False.elim (by omega))) (fun h66 => ?_)
      refine g_iconst (q := 70) dX7_dial_69 rfl ⟨by decide, by decide⟩ ?_
      exact g_ret dX7_dial_70 rfl (by decide) (by unfold p_dial; (repeat (first | rw [if_pos (by omega)] | rw [if_neg (by omega)])); exact ⟨rfl, rfl⟩)
  · skip
    refine g_iload_n (i := 1) (q := 1) dX7_dial_0 rfl rfl rfl ?_
    by_cases c1 : 0 ≤ a ∧ a < 200
    · refine g_fnS (as := [zI a]) (q := 4) (u' := 0) dX7_dial_1 rfl ck_X7_108 rfl rfl (Nat.le_of_ble_eq_true rfl) (by decide) rfl (by decide) (t_isNumber_t c1) rfl ?_
      refine g_if_eq (t := 18) (q := 7) dX7_dial_4 (by decide) rfl (fun h4 => (False.elim (by omega))) (fun h4 => ?_)
      refine g_iload_n (i := 2) (q := 8) dX7_dial_7 rfl rfl rfl ?_
      by_cases c8 : 0 ≤ n ∧ n < 200
      · refine g_fnS (as := [zI n]) (q := 11) (u' := 0) dX7_dial_8 rfl ck_X7_108 rfl rfl (Nat.le_of_ble_eq_true rfl) (by decide) rfl (by decide) (t_isNumber_t c8) rfl ?_
        refine g_if_eq (t := 18) (q := 14) dX7_dial_11 (by decide) rfl (fun h11 => (False.elim (by omega))) (fun h11 => ?_)
        refine g_iconst (q := 15) dX7_dial_14 rfl ⟨by decide, by decide⟩ ?_
        refine g_goto (q := 0) (t := 19) dX7_dial_15 (by decide) ?_
        refine g_istore (q := 21) dX7_dial_19 rfl (by decide) ?_
        refine g_aload_n (i := 0) (q := 22) dX7_dial_21 rfl rfl rfl ?_
        refine g_iload (q := 24) dX7_dial_22 rfl rfl ?_
        refine g_if_ne (t := 31) (q := 27) dX7_dial_24 (by decide) rfl (fun h24 => ?_) (fun h24 => (False.elim (by omega)))
        refine g_iload_n (i := 3) (q := 32) dX7_dial_31 rfl rfl rfl ?_
        refine g_iconst (q := 33) dX7_dial_32 rfl ⟨by decide, by decide⟩ ?_
        refine g_iconst (q := 34) dX7_dial_33 rfl ⟨by decide, by decide⟩ ?_
        by_cases c34 : 0 ≤ w ∧ w ≤ 2
        · refine g_fnS (as := [zI w, zI 0, zI 2]) (q := 37) (u' := 0) dX7_dial_34 rfl ck_X7_84 rfl rfl (Nat.le_of_ble_eq_true rfl) (by decide) rfl (by decide) (t_in_t c34) rfl ?_
          refine g_if_ne (t := 44) (q := 40) dX7_dial_37 (by decide) rfl (fun h37 => ?_) (fun h37 => (False.elim (by omega)))
          refine g_aload_n (i := 0) (q := 45) dX7_dial_44 rfl rfl rfl ?_
          refine g_getr (q := 48) dX7_dial_45 rfl fk_X7_17 rfl rfl ?_
          refine g_iload_n (i := 1) (q := 49) dX7_dial_48 rfl rfl rfl ?_
          refine g_ildv (q := 50) (z := S.2.1 42 a) dX7_dial_49 rfl ⟨by decide, rfl, rfl⟩ (by omega) (by omega) rfl ?_
          refine g_iconst (q := 51) dX7_dial_50 rfl ⟨by decide, by decide⟩ ?_
          refine g_icmp_ne (t := 58) (q := 54) dX7_dial_51 (by decide) rfl (fun h51 => ?_) (fun h51 => ?_)
          · refine g_iconst (q := 59) dX7_dial_58 rfl ⟨by decide, by decide⟩ ?_
            refine g_put (q := 62) dX7_dial_59 rfl fk_X7_80 fp_7_0 rfl rfl ?_
            refine g_aload_n (i := 0) (q := 63) dX7_dial_62 rfl rfl rfl ?_
            refine g_getv (q := 66) (z := 0) dX7_dial_63 rfl fk_X7_80 rfl rfl rfl ?_
            refine g_if_le (t := 71) (q := 69) dX7_dial_66 (by decide) rfl (fun h66 => ?_) (fun h66 => (False.elim (by omega)))
            refine g_aload_n (i := 0) (q := 72) dX7_dial_71 rfl rfl rfl ?_
            refine g_aload_n (i := 0) (q := 73) dX7_dial_72 rfl rfl rfl ?_
            refine g_getr (q := 76) dX7_dial_73 rfl fk_X7_17 rfl rfl ?_
            refine g_iload_n (i := 1) (q := 77) dX7_dial_76 rfl rfl rfl ?_
            refine g_ildv (q := 78) (z := S.2.1 42 a) dX7_dial_77 rfl ⟨by decide, rfl, rfl⟩ (by omega) (by omega) rfl ?_
            refine g_iload_n (i := 2) (q := 79) dX7_dial_78 rfl rfl rfl ?_
            refine g_iload_n (i := 3) (q := 80) dX7_dial_79 rfl rfl rfl ?_
            have hNa := hN a (by omega) (by omega)
            refine g_fnV (as := [zI (S.2.1 42 a), zI n, zI w]) (q := 83) (u' := 0) dX7_dial_80 rfl ck_X7_188 rfl rfl rfl (Nat.le_of_ble_eq_true rfl) (by decide) rfl (by decide) (t_callsTo (S := z_sS S 5 0) hC (by omega) (by omega)) rfl ?_
            refine g_istore (q := 85) dX7_dial_83 rfl (by decide) ?_
            refine g_iconst (q := 86) dX7_dial_85 rfl ⟨by decide, by decide⟩ ?_
            refine g_istore (q := 88) dX7_dial_86 rfl (by decide) ?_
            refine g_iload (q := 90) dX7_dial_88 rfl rfl ?_
            refine g_aload_n (i := 0) (q := 91) dX7_dial_90 rfl rfl rfl ?_
            refine g_getv (q := 94) (z := ((y_tc (z_sS S 5 0) (S.2.1 42 a) n w).1).1 9) dX7_dial_91 rfl fk_X7_176 rfl rfl rfl ?_
            refine g_icmp_ge (t := 141) (q := 97) dX7_dial_94 (by decide) rfl (fun h94 => ?_) (fun h94 => ?_)
            · refine g_iload (q := 143) dX7_dial_141 rfl rfl ?_
              exact g_ret dX7_dial_143 rfl (by decide) (by unfold p_dial; (repeat (first | rw [if_pos (by omega)] | rw [if_neg (by omega)])); exact ⟨rfl, rfl⟩)
            · refine g_iload (q := 99) dX7_dial_97 rfl rfl ?_
              refine g_if_ne (t := 141) (q := 102) dX7_dial_99 (by decide) rfl (fun h99 => ?_) (fun h99 => (False.elim (by omega)))
              refine g_iload (q := 143) dX7_dial_141 rfl rfl ?_
              exact g_ret dX7_dial_143 rfl (by decide) (by unfold p_dial; (repeat (first | rw [if_pos (by omega)] | rw [if_neg (by omega)])); exact ⟨rfl, rfl⟩)
          · refine g_iconst (q := 55) dX7_dial_54 rfl ⟨by decide, by decide⟩ ?_
            refine g_goto (q := 0) (t := 59) dX7_dial_55 (by decide) ?_
            refine g_put (q := 62) dX7_dial_59 rfl fk_X7_80 fp_7_0 rfl rfl ?_
            refine g_aload_n (i := 0) (q := 63) dX7_dial_62 rfl rfl rfl ?_
            refine g_getv (q := 66) (z := 3) dX7_dial_63 rfl fk_X7_80 rfl rfl rfl ?_
            refine g_if_le (t := 71) (q := 69) dX7_dial_66 (by decide) rfl (fun h66 => (False.elim (by omega))) (fun h66 => ?_)
            refine g_iconst (q := 70) dX7_dial_69 rfl ⟨by decide, by decide⟩ ?_
            exact g_ret dX7_dial_70 rfl (by decide) (by unfold p_dial; (repeat (first | rw [if_pos (by omega)] | rw [if_neg (by omega)])); exact ⟨rfl, rfl⟩)
        · refine g_fnS (as := [zI w, zI 0, zI 2]) (q := 37) (u' := 0) dX7_dial_34 rfl ck_X7_84 rfl rfl (Nat.le_of_ble_eq_true rfl) (by decide) rfl (by decide) (t_in_f c34) rfl ?_
          refine g_if_ne (t := 44) (q := 40) dX7_dial_37 (by decide) rfl (fun h37 => (False.elim (by omega))) (fun h37 => ?_)
          refine g_iconst (q := 41) dX7_dial_40 rfl ⟨by decide, by decide⟩ ?_
          refine g_goto (q := 0) (t := 59) dX7_dial_41 (by decide) ?_
          refine g_put (q := 62) dX7_dial_59 rfl fk_X7_80 fp_7_0 rfl rfl ?_
          refine g_aload_n (i := 0) (q := 63) dX7_dial_62 rfl rfl rfl ?_
          refine g_getv (q := 66) (z := 2) dX7_dial_63 rfl fk_X7_80 rfl rfl rfl ?_
          refine g_if_le (t := 71) (q := 69) dX7_dial_66 (by decide) rfl (fun h66 => (False.elim (by omega))) (fun h66 => ?_)
          refine g_iconst (q := 70) dX7_dial_69 rfl ⟨by decide, by decide⟩ ?_
          exact g_ret dX7_dial_70 rfl (by decide) (by unfold p_dial; (repeat (first | rw [if_pos (by omega)] | rw [if_neg (by omega)])); exact ⟨rfl, rfl⟩)
      · refine g_fnS (as := [zI n]) (q := 11) (u' := 0) dX7_dial_8 rfl ck_X7_108 rfl rfl (Nat.le_of_ble_eq_true rfl) (by decide) rfl (by decide) (t_isNumber_f c8) rfl ?_
        refine g_if_eq (t := 18) (q := 14) dX7_dial_11 (by decide) rfl (fun h11 => ?_) (fun h11 => (False.elim (by omega)))
        refine g_iconst (q := 19) dX7_dial_18 rfl ⟨by decide, by decide⟩ ?_
        refine g_istore (q := 21) dX7_dial_19 rfl (by decide) ?_
        refine g_aload_n (i := 0) (q := 22) dX7_dial_21 rfl rfl rfl ?_
        refine g_iload (q := 24) dX7_dial_22 rfl rfl ?_
        refine g_if_ne (t := 31) (q := 27) dX7_dial_24 (by decide) rfl (fun h24 => (False.elim (by omega))) (fun h24 => ?_)
        refine g_iconst (q := 28) dX7_dial_27 rfl ⟨by decide, by decide⟩ ?_
        refine g_goto (q := 0) (t := 59) dX7_dial_28 (by decide) ?_
        refine g_put (q := 62) dX7_dial_59 rfl fk_X7_80 fp_7_0 rfl rfl ?_
        refine g_aload_n (i := 0) (q := 63) dX7_dial_62 rfl rfl rfl ?_
        refine g_getv (q := 66) (z := 1) dX7_dial_63 rfl fk_X7_80 rfl rfl rfl ?_
        refine g_if_le (t := 71) (q := 69) dX7_dial_66 (by decide) rfl (fun h66 => (False.elim (by omega))) (fun h66 => ?_)
        refine g_iconst (q := 70) dX7_dial_69 rfl ⟨by decide, by decide⟩ ?_
        exact g_ret dX7_dial_70 rfl (by decide) (by unfold p_dial; (repeat (first | rw [if_pos (by omega)] | rw [if_neg (by omega)])); exact ⟨rfl, rfl⟩)
    · refine g_fnS (as := [zI a]) (q := 4) (u' := 0) dX7_dial_1 rfl ck_X7_108 rfl rfl (Nat.le_of_ble_eq_true rfl) (by decide) rfl (by decide) (t_isNumber_f c1) rfl ?_
      refine g_if_eq (t := 18) (q := 7) dX7_dial_4 (by decide) rfl (fun h4 => ?_) (fun h4 => (False.elim (by omega)))
      refine g_iconst (q := 19) dX7_dial_18 rfl ⟨by decide, by decide⟩ ?_
      refine g_istore (q := 21) dX7_dial_19 rfl (by decide) ?_
      refine g_aload_n (i := 0) (q := 22) dX7_dial_21 rfl rfl rfl ?_
      refine g_iload (q := 24) dX7_dial_22 rfl rfl ?_
      refine g_if_ne (t := 31) (q := 27) dX7_dial_24 (by decide) rfl (fun h24 => (False.elim (by omega))) (fun h24 => ?_)
      refine g_iconst (q := 28) dX7_dial_27 rfl ⟨by decide, by decide⟩ ?_
      refine g_goto (q := 0) (t := 59) dX7_dial_28 (by decide) ?_
      refine g_put (q := 62) dX7_dial_59 rfl fk_X7_80 fp_7_0 rfl rfl ?_
      refine g_aload_n (i := 0) (q := 63) dX7_dial_62 rfl rfl rfl ?_
      refine g_getv (q := 66) (z := 1) dX7_dial_63 rfl fk_X7_80 rfl rfl rfl ?_
      refine g_if_le (t := 71) (q := 69) dX7_dial_66 (by decide) rfl (fun h66 => (False.elim (by omega))) (fun h66 => ?_)
      refine g_iconst (q := 70) dX7_dial_69 rfl ⟨by decide, by decide⟩ ?_
      exact g_ret dX7_dial_70 rfl (by decide) (by unfold p_dial; (repeat (first | rw [if_pos (by omega)] | rw [if_neg (by omega)])); exact ⟨rfl, rfl⟩)
theorem t_minute {S : zS} : z_Ret mX7_minute [zR 7] S (S.1 6, z_sS S 5 0) := by
  refine z_enter (by decide +kernel) rfl (z_n1 trivial z_n0) (Nat.le_of_ble_eq_true rfl) ?_
  refine g_aload_n (i := 0) (q := 1) dX7_minute_0 rfl rfl rfl ?_
  refine g_iconst (q := 2) dX7_minute_1 rfl ⟨by decide, by decide⟩ ?_
  refine g_put (q := 5) dX7_minute_2 rfl fk_X7_80 fp_7_0 rfl rfl ?_
  refine g_aload_n (i := 0) (q := 6) dX7_minute_5 rfl rfl rfl ?_
  refine g_getv (q := 9) (z := S.1 6) dX7_minute_6 rfl fk_X7_91 rfl rfl rfl ?_
  exact g_ret dX7_minute_9 rfl (by decide) (by first | exact ⟨rfl, rfl⟩ | (exfalso; omega))
