/-! ===== the class's public calls, second part ===== -/
def x_rv (S : zS) (o : Int) : zS := x_pay (x_mv (z_sA S 19 o 4) (S.2.1 21 o) (S.2.1 23 o)) (S.2.1 23 o) (S.2.1 22 o) 5
def o_reverse (S : zS) (o : Int) : zO := if ¬ (0 ≤ o ∧ o < S.1 1) then (.error xI, S) else if ¬ (S.2.1 19 o = 2 ∧ S.1 0 - S.2.1 24 o ≤ 60 ∧ ¬ S.2.1 13 (S.2.1 21 o) = -1 ∧ S.2.1 9 (S.2.1 23 o) = 0 ∧ S.2.1 18 (S.2.1 21 o) = o) then (.error xS, S) else (zI? (S.2.1 23 o), x_rv S o)
theorem c_reverse {S : zS} {o : Int} (h60 : S.1 1 ≤ 60) (hnow : 0 ≤ S.1 0 ∧ S.1 0 ≤ 9999) (h2 : 0 ≤ S.1 2 ∧ S.1 2 < 600) (h3 : 0 ≤ S.1 3 ∧ S.1 3 < 572) (hd : ∀ o : Int, 0 ≤ o → o < S.1 1 → (0 ≤ S.2.1 21 o ∧ S.2.1 21 o < 200) ∧ (0 ≤ S.2.1 22 o ∧ S.2.1 22 o < 6) ∧ (0 ≤ S.2.1 24 o ∧ S.2.1 24 o ≤ 20000) ∧ (S.2.1 19 o = 2 → 0 ≤ S.2.1 23 o ∧ S.2.1 23 o < 6)) : z_Out mX6_reverse [zR 0, zI o] S (o_reverse S o) := by
  refine z_enter (by decide +kernel) rfl (z_n1 trivial (z_n1 trivial z_n0)) (Nat.le_of_ble_eq_true rfl) ?_
  by_cases ho : 0 ≤ o ∧ o < S.1 1
  · obtain ⟨d1, d2, d3, d4⟩ := hd o ho.1 ho.2
    by_cases hr : S.2.1 19 o = 2 ∧ S.1 0 - S.2.1 24 o ≤ 60 ∧ ¬ S.2.1 13 (S.2.1 21 o) = -1 ∧ S.2.1 9 (S.2.1 23 o) = 0 ∧ S.2.1 18 (S.2.1 21 o) = o
    · have d5 := d4 hr.1
      refine g_aload_n (i := 0) (q := 1) dX6_reverse_0 rfl rfl rfl ?_
      refine g_iload_n (i := 1) (q := 2) dX6_reverse_1 rfl rfl rfl ?_
      refine g_fnV (as := [zI o]) (q := 5) (u' := 1) dX6_reverse_2 rfl ck_X6_184 rfl rfl rfl (Nat.le_of_ble_eq_true rfl) (by decide) rfl (by decide) (s_X6_requireOrder_ok ho) rfl ?_
      refine g_aload_n (i := 0) (q := 6) dX6_reverse_5 rfl rfl rfl ?_
      refine g_iload_n (i := 1) (q := 7) dX6_reverse_6 rfl rfl rfl ?_
      refine g_fnV (as := [zI o]) (q := 10) (u' := 1) dX6_reverse_7 rfl ck_X6_199 rfl rfl rfl (Nat.le_of_ble_eq_true rfl) (by decide) rfl (by decide) (s_X6_canReverse_t (by omega) hnow d1 d5 (by omega) hr) rfl ?_
      refine g_if_ne (t := 23) (q := 13) dX6_reverse_10 (by decide) rfl (fun h10 => ?_) (fun h10 => (False.elim (by omega)))
      refine g_aload_n (i := 0) (q := 24) dX6_reverse_23 rfl rfl rfl ?_
      refine g_getr (q := 27) dX6_reverse_24 rfl fk_X6_30 rfl rfl ?_
      refine g_getr (q := 30) dX6_reverse_27 rfl fk_X6_204 rfl rfl ?_
      refine g_iload_n (i := 1) (q := 31) dX6_reverse_30 rfl rfl rfl ?_
      refine g_ildv (q := 32) (z := S.2.1 23 o) dX6_reverse_31 rfl ⟨by decide, rfl, rfl⟩ (by omega) (by omega) rfl ?_
      refine g_istore_n (i := 2) (q := 33) dX6_reverse_32 rfl rfl (by decide) ?_
      refine g_aload_n (i := 0) (q := 34) dX6_reverse_33 rfl rfl rfl ?_
      refine g_getr (q := 37) dX6_reverse_34 rfl fk_X6_30 rfl rfl ?_
      refine g_getr (q := 40) dX6_reverse_37 rfl fk_X6_187 rfl rfl ?_
      refine g_iload_n (i := 1) (q := 41) dX6_reverse_40 rfl rfl rfl ?_
      refine g_iconst (q := 42) dX6_reverse_41 rfl ⟨by decide, by decide⟩ ?_
      refine g_iast (q := 43) dX6_reverse_42 rfl ⟨by decide, rfl, rfl⟩ (by omega) (by omega) ?_
      refine g_aload_n (i := 0) (q := 44) dX6_reverse_43 rfl rfl rfl ?_
      refine g_aload_n (i := 0) (q := 45) dX6_reverse_44 rfl rfl rfl ?_
      refine g_getr (q := 48) dX6_reverse_45 rfl fk_X6_30 rfl rfl ?_
      refine g_getr (q := 51) dX6_reverse_48 rfl fk_X6_207 rfl rfl ?_
      refine g_iload_n (i := 1) (q := 52) dX6_reverse_51 rfl rfl rfl ?_
      refine g_ildv (q := 53) (z := S.2.1 21 o) dX6_reverse_52 rfl ⟨by decide, rfl, rfl⟩ (by omega) (by omega) rfl ?_
      refine g_iload_n (i := 2) (q := 54) dX6_reverse_53 rfl rfl rfl ?_
      refine g_fnV (as := [zI (S.2.1 21 o), zI (S.2.1 23 o)]) (q := 57) (u' := 1) dX6_reverse_54 rfl ck_X6_210 rfl rfl rfl (Nat.le_of_ble_eq_true rfl) (by decide) rfl (by decide) (s_X6_moveTo (S := z_sA S 19 o 4) d1 h2 h3) rfl ?_
      refine g_aload_n (i := 0) (q := 58) dX6_reverse_57 rfl rfl rfl ?_
      refine g_getr (q := 61) dX6_reverse_58 rfl fk_X6_16 rfl rfl ?_
      refine g_iload_n (i := 2) (q := 62) dX6_reverse_61 rfl rfl rfl ?_
      refine g_aload_n (i := 0) (q := 63) dX6_reverse_62 rfl rfl rfl ?_
      refine g_getr (q := 66) dX6_reverse_63 rfl fk_X6_30 rfl rfl ?_
      refine g_getr (q := 69) dX6_reverse_66 rfl fk_X6_213 rfl rfl ?_
      refine g_iload_n (i := 1) (q := 70) dX6_reverse_69 rfl rfl rfl ?_
      refine g_ildv (q := 71) (z := (x_mv (z_sA S 19 o 4) (S.2.1 21 o) (S.2.1 23 o)).2.1 22 o) dX6_reverse_70 rfl ⟨by decide, rfl, rfl⟩ (by omega) (by omega) rfl ?_
      refine g_iconst (q := 72) dX6_reverse_71 rfl ⟨by decide, by decide⟩ ?_
      refine g_fnV (as := [zI (S.2.1 23 o), zI ((x_mv (z_sA S 19 o 4) (S.2.1 21 o) (S.2.1 23 o)).2.1 22 o), zI 5]) (q := 75) (u' := 1) dX6_reverse_72 rfl ck_X6_216 rfl rfl rfl (Nat.le_of_ble_eq_true rfl) (by decide) rfl (by decide) (s_X2_pay d5 d2) rfl ?_
      refine g_iload_n (i := 2) (q := 76) dX6_reverse_75 rfl rfl rfl ?_
      exact g_ret dX6_reverse_76 rfl (by decide) (by unfold o_reverse; rw [if_neg (by omega), if_neg (fun q => q hr)]; exact ⟨rfl, rfl⟩)
    · skip
      refine g_aload_n (i := 0) (q := 1) dX6_reverse_0 rfl rfl rfl ?_
      refine g_iload_n (i := 1) (q := 2) dX6_reverse_1 rfl rfl rfl ?_
      refine g_fnV (as := [zI o]) (q := 5) (u' := 1) dX6_reverse_2 rfl ck_X6_184 rfl rfl rfl (Nat.le_of_ble_eq_true rfl) (by decide) rfl (by decide) (s_X6_requireOrder_ok ho) rfl ?_
      refine g_aload_n (i := 0) (q := 6) dX6_reverse_5 rfl rfl rfl ?_
      refine g_iload_n (i := 1) (q := 7) dX6_reverse_6 rfl rfl rfl ?_
      refine g_fnV (as := [zI o]) (q := 10) (u' := 1) dX6_reverse_7 rfl ck_X6_199 rfl rfl rfl (Nat.le_of_ble_eq_true rfl) (by decide) rfl (by decide) (s_X6_canReverse_f (by omega) hnow d1 d4 (by omega) hr) rfl ?_
      refine g_if_ne (t := 23) (q := 13) dX6_reverse_10 (by decide) rfl (fun h10 => (False.elim (by omega))) (fun h10 => ?_)
      exact g_throw (text := "the order cannot be turned back") rfl rfl z_tk_S (by decide +kernel) dX6_reverse_13 dX6_reverse_16 dX6_reverse_17 dX6_reverse_19 dX6_reverse_22 (by decide) (by decide) (by decide) (by unfold o_reverse; rw [if_neg (by omega), if_pos hr]; exact ⟨rfl, rfl⟩)
  · skip
    refine g_aload_n (i := 0) (q := 1) dX6_reverse_0 rfl rfl rfl ?_
    refine g_iload_n (i := 1) (q := 2) dX6_reverse_1 rfl rfl rfl ?_
    exact g_exV (as := [zI o]) dX6_reverse_2 ck_X6_184 rfl rfl rfl (Nat.le_of_ble_eq_true rfl) (by decide) (by decide) rfl (s_X6_requireOrder_ex ho) (by unfold o_reverse; (repeat (first | rw [if_pos (by omega)] | rw [if_neg (by omega)])); exact ⟨rfl, rfl⟩)
def o_pass (S : zS) (c : Nat) (m : Int) : zO := if ¬ (1 ≤ m ∧ m ≤ 100) then (.error xA, S) else if 9999 < S.1 0 + m then (.error xS, S) else (zI? (x_psn S c m.toNat), x_ps S c m.toNat)
theorem c_pass {S : zS} {c : Nat} {m : Int} (P : xP S c) (h2 : 1 ≤ m → m ≤ 100 → S.1 0 + m ≤ 9999 → (x_ps S c m.toNat).1 2 ≤ 600 ∧ (x_ps S c m.toNat).1 3 ≤ 572) : z_Out mX6_pass [zR 0, zI m] S (o_pass S c m) := by
  have hnow := P.2.2.1
  refine z_enter (by decide +kernel) rfl (z_n1 trivial (z_n1 trivial z_n0)) (Nat.le_of_ble_eq_true rfl) ?_
  by_cases hm : 1 ≤ m ∧ m ≤ 100
  · obtain ⟨k, rfl⟩ : ∃ k : Nat, m = k := ⟨m.toNat, by omega⟩
    by_cases hn : S.1 0 + (k : Int) ≤ 9999
    · have hh := h2 hm.1 hm.2 hn
      rw [Int.toNat_natCast] at hh
      refine g_iload_n (i := 1) (q := 1) dX6_pass_0 rfl rfl rfl ?_
      refine g_iconst (q := 2) dX6_pass_1 rfl ⟨by decide, by decide⟩ ?_
      refine g_icmp_lt (t := 11) (q := 5) dX6_pass_2 (by decide) rfl (fun h2 => (False.elim (by omega))) (fun h2 => ?_)
      refine g_iload_n (i := 1) (q := 6) dX6_pass_5 rfl rfl rfl ?_
      refine g_bipush (q := 8) dX6_pass_6 rfl ⟨by decide, by decide⟩ (by decide) ?_
      refine g_icmp_le (t := 21) (q := 11) dX6_pass_8 (by decide) rfl (fun h8 => ?_) (fun h8 => (False.elim (by omega)))
      refine g_aload_n (i := 0) (q := 22) dX6_pass_21 rfl rfl rfl ?_
      refine g_getv (q := 25) (z := S.1 0) dX6_pass_22 rfl fk_X6_55 rfl rfl rfl ?_
      refine g_iload_n (i := 1) (q := 26) dX6_pass_25 rfl rfl rfl ?_
      refine g_iadd (q := 27) dX6_pass_26 rfl (by constructor <;> omega) ?_
      refine g_sipush (q := 30) dX6_pass_27 rfl ⟨by decide, by decide⟩ (by decide) ?_
      refine g_icmp_le (t := 43) (q := 33) dX6_pass_30 (by decide) rfl (fun h30 => ?_) (fun h30 => (False.elim (by omega)))
      refine g_iconst (q := 44) dX6_pass_43 rfl ⟨by decide, by decide⟩ ?_
      refine g_istore_n (i := 2) (q := 45) dX6_pass_44 rfl rfl (by decide) ?_
      refine g_iconst (q := 46) dX6_pass_45 rfl ⟨by decide, by decide⟩ ?_
      refine g_istore_n (i := 3) (q := 47) dX6_pass_46 rfl rfl (by decide) ?_
      exact l_X6_pass (by omega) k 0 S 0 (by omega) P hn hh.1 hh.2 (by omega) (by unfold o_pass; rw [if_neg (by omega), if_neg (by omega), Int.toNat_natCast, Int.zero_add]; exact ⟨rfl, rfl⟩)
    · skip
      refine g_iload_n (i := 1) (q := 1) dX6_pass_0 rfl rfl rfl ?_
      refine g_iconst (q := 2) dX6_pass_1 rfl ⟨by decide, by decide⟩ ?_
      refine g_icmp_lt (t := 11) (q := 5) dX6_pass_2 (by decide) rfl (fun h2 => (False.elim (by omega))) (fun h2 => ?_)
      refine g_iload_n (i := 1) (q := 6) dX6_pass_5 rfl rfl rfl ?_
      refine g_bipush (q := 8) dX6_pass_6 rfl ⟨by decide, by decide⟩ (by decide) ?_
      refine g_icmp_le (t := 21) (q := 11) dX6_pass_8 (by decide) rfl (fun h8 => ?_) (fun h8 => (False.elim (by omega)))
      refine g_aload_n (i := 0) (q := 22) dX6_pass_21 rfl rfl rfl ?_
      refine g_getv (q := 25) (z := S.1 0) dX6_pass_22 rfl fk_X6_55 rfl rfl rfl ?_
      refine g_iload_n (i := 1) (q := 26) dX6_pass_25 rfl rfl rfl ?_
      refine g_iadd (q := 27) dX6_pass_26 rfl (by constructor <;> omega) ?_
      refine g_sipush (q := 30) dX6_pass_27 rfl ⟨by decide, by decide⟩ (by decide) ?_
      refine g_icmp_le (t := 43) (q := 33) dX6_pass_30 (by decide) rfl (fun h30 => (False.elim (by omega))) (fun h30 => ?_)
      exact g_throw (text := "the minute would be too late") rfl rfl z_tk_S (by decide +kernel) dX6_pass_33 dX6_pass_36 dX6_pass_37 dX6_pass_39 dX6_pass_42 (by decide) (by decide) (by decide) (by unfold o_pass; (repeat (first | rw [if_pos (by omega)] | rw [if_neg (by omega)])); exact ⟨rfl, rfl⟩)
  · skip
    refine g_iload_n (i := 1) (q := 1) dX6_pass_0 rfl rfl rfl ?_
    refine g_iconst (q := 2) dX6_pass_1 rfl ⟨by decide, by decide⟩ ?_
    refine g_icmp_lt (t := 11) (q := 5) dX6_pass_2 (by decide) rfl (fun h2 => ?_) (fun h2 => ?_)
    · exact g_throw (text := "minutes is out of range") rfl rfl z_tk_A (by decide +kernel) dX6_pass_11 dX6_pass_14 dX6_pass_15 dX6_pass_17 dX6_pass_20 (by decide) (by decide) (by decide) (by unfold o_pass; (repeat (first | rw [if_pos (by omega)] | rw [if_neg (by omega)])); exact ⟨rfl, rfl⟩)
    · refine g_iload_n (i := 1) (q := 6) dX6_pass_5 rfl rfl rfl ?_
      refine g_bipush (q := 8) dX6_pass_6 rfl ⟨by decide, by decide⟩ (by decide) ?_
      refine g_icmp_le (t := 21) (q := 11) dX6_pass_8 (by decide) rfl (fun h8 => ?_) (fun h8 => ?_)
      · exfalso
        omega
      · exact g_throw (text := "minutes is out of range") rfl rfl z_tk_A (by decide +kernel) dX6_pass_11 dX6_pass_14 dX6_pass_15 dX6_pass_17 dX6_pass_20 (by decide) (by decide) (by decide) (by unfold o_pass; (repeat (first | rw [if_pos (by omega)] | rw [if_neg (by omega)])); exact ⟨rfl, rfl⟩)
def o_setLag (S : zS) (f g : Int) : zO := if ¬ (0 ≤ f ∧ f < 6) then (.error xI, S) else if ¬ (0 ≤ g ∧ g ≤ 50) then (.error xA, S) else (zI? (S.2.1 11 f), z_sA S 11 f g)
theorem c_setLag {S : zS} {f g : Int} : z_Out mX6_setLag [zR 0, zI f, zI g] S (o_setLag S f g) := by
  refine z_enter (by decide +kernel) rfl (z_n1 trivial (z_n1 trivial (z_n1 trivial z_n0))) (Nat.le_of_ble_eq_true rfl) ?_
  refine g_iload_n (i := 1) (q := 1) dX6_setLag_0 rfl rfl rfl ?_
  by_cases c1 : 0 ≤ f ∧ f < 6
  · skip
    refine g_fnS (as := [zI f]) (q := 4) (u' := 1) dX6_setLag_1 rfl ck_X6_150 rfl rfl (Nat.le_of_ble_eq_true rfl) (by decide) rfl (by decide) (s_X6_requireFirm_ok c1) rfl ?_
    refine g_iload_n (i := 2) (q := 5) dX6_setLag_4 rfl rfl rfl ?_
    refine g_if_lt (t := 14) (q := 8) dX6_setLag_5 (by decide) rfl (fun h5 => ?_) (fun h5 => ?_)
    · exact g_throw (text := "lag is out of range") rfl rfl z_tk_A (by decide +kernel) dX6_setLag_14 dX6_setLag_17 dX6_setLag_18 dX6_setLag_20 dX6_setLag_23 (by decide) (by decide) (by decide) (by unfold o_setLag; (repeat (first | rw [if_pos (by omega)] | rw [if_neg (by omega)])); exact ⟨rfl, rfl⟩)
    · refine g_iload_n (i := 2) (q := 9) dX6_setLag_8 rfl rfl rfl ?_
      refine g_bipush (q := 11) dX6_setLag_9 rfl ⟨by decide, by decide⟩ (by decide) ?_
      refine g_icmp_le (t := 24) (q := 14) dX6_setLag_11 (by decide) rfl (fun h11 => ?_) (fun h11 => ?_)
      · refine g_aload_n (i := 0) (q := 25) dX6_setLag_24 rfl rfl rfl ?_
        refine g_getr (q := 28) dX6_setLag_25 rfl fk_X6_16 rfl rfl ?_
        refine g_getr (q := 31) dX6_setLag_28 rfl fk_X6_231 rfl rfl ?_
        refine g_iload_n (i := 1) (q := 32) dX6_setLag_31 rfl rfl rfl ?_
        refine g_ildv (q := 33) (z := S.2.1 11 f) dX6_setLag_32 rfl ⟨by decide, rfl, rfl⟩ (by omega) (by omega) rfl ?_
        refine g_istore_n (i := 3) (q := 34) dX6_setLag_33 rfl rfl (by decide) ?_
        refine g_aload_n (i := 0) (q := 35) dX6_setLag_34 rfl rfl rfl ?_
        refine g_getr (q := 38) dX6_setLag_35 rfl fk_X6_16 rfl rfl ?_
        refine g_getr (q := 41) dX6_setLag_38 rfl fk_X6_231 rfl rfl ?_
        refine g_iload_n (i := 1) (q := 42) dX6_setLag_41 rfl rfl rfl ?_
        refine g_iload_n (i := 2) (q := 43) dX6_setLag_42 rfl rfl rfl ?_
        refine g_iast (q := 44) dX6_setLag_43 rfl ⟨by decide, rfl, rfl⟩ (by omega) (by omega) ?_
        refine g_iload_n (i := 3) (q := 45) dX6_setLag_44 rfl rfl rfl ?_
        exact g_ret dX6_setLag_45 rfl (by decide) (by unfold o_setLag; (repeat (first | rw [if_pos (by omega)] | rw [if_neg (by omega)])); exact ⟨rfl, rfl⟩)
      · exact g_throw (text := "lag is out of range") rfl rfl z_tk_A (by decide +kernel) dX6_setLag_14 dX6_setLag_17 dX6_setLag_18 dX6_setLag_20 dX6_setLag_23 (by decide) (by decide) (by decide) (by unfold o_setLag; (repeat (first | rw [if_pos (by omega)] | rw [if_neg (by omega)])); exact ⟨rfl, rfl⟩)
  · exact g_exS (as := [zI f]) dX6_setLag_1 ck_X6_150 rfl rfl (Nat.le_of_ble_eq_true rfl) (by decide) (by decide) rfl (s_X6_requireFirm_ex c1) (by unfold o_setLag; (repeat (first | rw [if_pos (by omega)] | rw [if_neg (by omega)])); exact ⟨rfl, rfl⟩)
def o_setDown (S : zS) (f g : Int) : zO := if ¬ (0 ≤ f ∧ f < 6) then (.error xI, S) else (zI? (S.2.1 10 f), z_sA S 10 f g)
theorem c_setDown {S : zS} {f g : Int} (hg : g = 0 ∨ g = 1) (hd : ∀ f : Int, 0 ≤ f → f < 6 → S.2.1 10 f = 0 ∨ S.2.1 10 f = 1) : z_Out mX6_setDown [zR 0, zI f, zI g] S (o_setDown S f g) := by
  refine z_enter (by decide +kernel) rfl (z_n1 trivial (z_n1 trivial (z_n1 trivial z_n0))) (Nat.le_of_ble_eq_true rfl) ?_
  refine g_iload_n (i := 1) (q := 1) dX6_setDown_0 rfl rfl rfl ?_
  by_cases c1 : 0 ≤ f ∧ f < 6
  · skip
    refine g_fnS (as := [zI f]) (q := 4) (u' := 1) dX6_setDown_1 rfl ck_X6_150 rfl rfl (Nat.le_of_ble_eq_true rfl) (by decide) rfl (by decide) (s_X6_requireFirm_ok c1) rfl ?_
    refine g_aload_n (i := 0) (q := 5) dX6_setDown_4 rfl rfl rfl ?_
    refine g_getr (q := 8) dX6_setDown_5 rfl fk_X6_16 rfl rfl ?_
    refine g_getr (q := 11) dX6_setDown_8 rfl fk_X6_234 rfl rfl ?_
    refine g_iload_n (i := 1) (q := 12) dX6_setDown_11 rfl rfl rfl ?_
    refine g_zldv (q := 13) (z := S.2.1 10 f) dX6_setDown_12 rfl ⟨by decide, rfl, rfl⟩ (by omega) (by omega) rfl ?_
    refine g_istore_n (i := 3) (q := 14) dX6_setDown_13 rfl rfl (by decide) ?_
    refine g_aload_n (i := 0) (q := 15) dX6_setDown_14 rfl rfl rfl ?_
    refine g_getr (q := 18) dX6_setDown_15 rfl fk_X6_16 rfl rfl ?_
    refine g_getr (q := 21) dX6_setDown_18 rfl fk_X6_234 rfl rfl ?_
    refine g_iload_n (i := 1) (q := 22) dX6_setDown_21 rfl rfl rfl ?_
    refine g_iload_n (i := 2) (q := 23) dX6_setDown_22 rfl rfl rfl ?_
    refine g_zast (q := 24) dX6_setDown_23 rfl ⟨by decide, rfl, rfl⟩ (by omega) (by omega) (by omega) ?_
    refine g_iload_n (i := 3) (q := 25) dX6_setDown_24 rfl rfl rfl ?_
    exact g_retz dX6_setDown_25 rfl (hd f (by omega) (by omega)) (by decide) (by unfold o_setDown; (repeat (first | rw [if_pos (by omega)] | rw [if_neg (by omega)])); exact ⟨rfl, rfl⟩)
  · exact g_exS (as := [zI f]) dX6_setDown_1 ck_X6_150 rfl rfl (Nat.le_of_ble_eq_true rfl) (by decide) (by decide) rfl (s_X6_requireFirm_ex c1) (by unfold o_setDown; (repeat (first | rw [if_pos (by omega)] | rw [if_neg (by omega)])); exact ⟨rfl, rfl⟩)
def o_correct (S : zS) (c2 : Nat) (f : Int) : zO := if ¬ (0 ≤ f ∧ f < 6) then (.error xI, S) else (zI? (S.1 2 - S.2.1 28 f), x_la S f (S.2.1 28 f).toNat (c2 - (S.2.1 28 f).toNat))
theorem c_correct {S : zS} {f : Int} {c2 : Nat} (hc2 : S.1 2 = c2) (h6 : c2 ≤ 600) (hk : ∀ f : Int, 0 ≤ f → f < 6 → 0 ≤ S.2.1 28 f ∧ S.2.1 28 f ≤ S.1 2) (hJ : ∀ j : Int, 0 ≤ j → j < S.1 2 → 0 ≤ S.2.1 26 j ∧ S.2.1 26 j < 200) : z_Out mX6_correct [zR 0, zI f] S (o_correct S c2 f) := by
  refine z_enter (by decide +kernel) rfl (z_n1 trivial (z_n1 trivial z_n0)) (Nat.le_of_ble_eq_true rfl) ?_
  refine g_iload_n (i := 1) (q := 1) dX6_correct_0 rfl rfl rfl ?_
  by_cases c1 : 0 ≤ f ∧ f < 6
  · skip
    refine g_fnS (as := [zI f]) (q := 4) (u' := 1) dX6_correct_1 rfl ck_X6_150 rfl rfl (Nat.le_of_ble_eq_true rfl) (by decide) rfl (by decide) (s_X6_requireFirm_ok c1) rfl ?_
    have hkf := hk f (by omega) (by omega)
    refine g_aload_n (i := 0) (q := 5) dX6_correct_4 rfl rfl rfl ?_
    refine g_getr (q := 8) dX6_correct_5 rfl fk_X6_37 rfl rfl ?_
    refine g_iload_n (i := 1) (q := 9) dX6_correct_8 rfl rfl rfl ?_
    refine g_fnV (as := [zI f]) (q := 12) (u' := 1) dX6_correct_9 rfl ck_X6_237 rfl rfl rfl (Nat.le_of_ble_eq_true rfl) (by decide) rfl (by decide) (s_X0_countUnknown (by omega) (by omega) (by omega) (by omega) (by omega)) rfl ?_
    refine g_istore_n (i := 2) (q := 13) dX6_correct_12 rfl rfl (by decide) ?_
    refine g_aload_n (i := 0) (q := 14) dX6_correct_13 rfl rfl rfl ?_
    refine g_getr (q := 17) dX6_correct_14 rfl fk_X6_37 rfl rfl ?_
    refine g_iload_n (i := 1) (q := 18) dX6_correct_17 rfl rfl rfl ?_
    refine g_fnV (as := [zI f]) (q := 21) (u' := 1) dX6_correct_18 rfl ck_X6_240 rfl rfl rfl (Nat.le_of_ble_eq_true rfl) (by decide) rfl (by decide) (s_X0_learnAll (a := (S.2.1 28 f).toNat) (by omega) hc2 h6 (by omega) (by omega) (fun j hj => hJ j (by omega) (by omega))) rfl ?_
    refine g_iload_n (i := 2) (q := 22) dX6_correct_21 rfl rfl rfl ?_
    exact g_ret dX6_correct_22 rfl (by decide) (by unfold o_correct; (repeat (first | rw [if_pos (by omega)] | rw [if_neg (by omega)])); exact ⟨rfl, rfl⟩)
  · exact g_exS (as := [zI f]) dX6_correct_1 ck_X6_150 rfl rfl (Nat.le_of_ble_eq_true rfl) (by decide) (by decide) rfl (s_X6_requireFirm_ex c1) (by unfold o_correct; (repeat (first | rw [if_pos (by omega)] | rw [if_neg (by omega)])); exact ⟨rfl, rfl⟩)
def o_server (S : zS) (n : Int) : zO := if ¬ (0 ≤ n ∧ n < 200) then (.error xI, S) else (zI? (S.2.1 13 n), S)
theorem c_server {S : zS} {n : Int} : z_Out mX6_server [zR 0, zI n] S (o_server S n) := by
  refine z_enter (by decide +kernel) rfl (z_n1 trivial (z_n1 trivial z_n0)) (Nat.le_of_ble_eq_true rfl) ?_
  refine g_iload_n (i := 1) (q := 1) dX6_server_0 rfl rfl rfl ?_
  by_cases c1 : 0 ≤ n ∧ n < 200
  · skip
    refine g_fnS (as := [zI n]) (q := 4) (u' := 1) dX6_server_1 rfl ck_X6_99 rfl rfl (Nat.le_of_ble_eq_true rfl) (by decide) rfl (by decide) (s_X6_requireNumber_ok c1) rfl ?_
    refine g_aload_n (i := 0) (q := 5) dX6_server_4 rfl rfl rfl ?_
    refine g_getr (q := 8) dX6_server_5 rfl fk_X6_23 rfl rfl ?_
    refine g_getr (q := 11) dX6_server_8 rfl fk_X6_129 rfl rfl ?_
    refine g_iload_n (i := 1) (q := 12) dX6_server_11 rfl rfl rfl ?_
    refine g_ildv (q := 13) (z := S.2.1 13 n) dX6_server_12 rfl ⟨by decide, rfl, rfl⟩ (by omega) (by omega) rfl ?_
    exact g_ret dX6_server_13 rfl (by decide) (by unfold o_server; (repeat (first | rw [if_pos (by omega)] | rw [if_neg (by omega)])); exact ⟨rfl, rfl⟩)
  · exact g_exS (as := [zI n]) dX6_server_1 ck_X6_99 rfl rfl (Nat.le_of_ble_eq_true rfl) (by decide) (by decide) rfl (s_X6_requireNumber_ex c1) (by unfold o_server; (repeat (first | rw [if_pos (by omega)] | rw [if_neg (by omega)])); exact ⟨rfl, rfl⟩)
def o_serverAnew (S : zS) (c3 : Nat) (n : Int) : zO := if ¬ (0 ≤ n ∧ n < 200) then (.error xI, S) else (zI? (x_rep S n 0 c3 (-1)), S)
theorem c_serverAnew {S : zS} {n : Int} {c3 : Nat} (hc3 : S.1 3 = c3) (h572 : c3 ≤ 572) : z_Out mX6_serverAnew [zR 0, zI n] S (o_serverAnew S c3 n) := by
  refine z_enter (by decide +kernel) rfl (z_n1 trivial (z_n1 trivial z_n0)) (Nat.le_of_ble_eq_true rfl) ?_
  refine g_iload_n (i := 1) (q := 1) dX6_serverAnew_0 rfl rfl rfl ?_
  by_cases c1 : 0 ≤ n ∧ n < 200
  · skip
    refine g_fnS (as := [zI n]) (q := 4) (u' := 1) dX6_serverAnew_1 rfl ck_X6_99 rfl rfl (Nat.le_of_ble_eq_true rfl) (by decide) rfl (by decide) (s_X6_requireNumber_ok c1) rfl ?_
    refine g_aload_n (i := 0) (q := 5) dX6_serverAnew_4 rfl rfl rfl ?_
    refine g_getr (q := 8) dX6_serverAnew_5 rfl fk_X6_44 rfl rfl ?_
    refine g_iload_n (i := 1) (q := 9) dX6_serverAnew_8 rfl rfl rfl ?_
    refine g_fnV (as := [zI n]) (q := 12) (u' := 1) dX6_serverAnew_9 rfl ck_X6_243 rfl rfl rfl (Nat.le_of_ble_eq_true rfl) (by decide) rfl (by decide) (s_X3_replay hc3 h572) rfl ?_
    exact g_ret dX6_serverAnew_12 rfl (by decide) (by unfold o_serverAnew; (repeat (first | rw [if_pos (by omega)] | rw [if_neg (by omega)])); exact ⟨rfl, rfl⟩)
  · exact g_exS (as := [zI n]) dX6_serverAnew_1 ck_X6_99 rfl rfl (Nat.le_of_ble_eq_true rfl) (by decide) (by decide) rfl (s_X6_requireNumber_ex c1) (by unfold o_serverAnew; (repeat (first | rw [if_pos (by omega)] | rw [if_neg (by omega)])); exact ⟨rfl, rfl⟩)
def z_b (p : Prop) [Decidable p] : Int := if p then 1 else 0
def o_number (S : zS) (c : Nat) (n w : Int) : zO := if ¬ (0 ≤ n ∧ n < 200) then (.error xI, S) else if ¬ (0 ≤ w ∧ w < 5) then (.error xA, S) else
  (zI? (if w = 0 then S.2.1 8 (n / 10) else if w = 1 then z_b (S.1 0 ≤ S.2.1 15 n) else if w = 2 then z_b (S.1 0 ≤ S.2.1 16 n) else if w = 3 then z_b (S.1 0 ≤ S.2.1 17 n) else z_on (x_wf S n c)), S)
theorem c_number {S : zS} {n w : Int} {c : Nat} (hc : S.1 1 = c) (h60 : c ≤ 60) : z_Out mX6_number [zR 0, zI n, zI w] S (o_number S c n w) := by
  refine z_enter (by decide +kernel) rfl (z_n1 trivial (z_n1 trivial (z_n1 trivial z_n0))) (Nat.le_of_ble_eq_true rfl) ?_
  by_cases hw : 0 ≤ w ∧ w < 5
  · have hw5 : w = 0 ∨ w = 1 ∨ w = 2 ∨ w = 3 ∨ w = 4 := by omega
    rcases hw5 with rfl | rfl | rfl | rfl | rfl
    · skip
      refine g_iload_n (i := 1) (q := 1) dX6_number_0 rfl rfl rfl ?_
      by_cases c1 : 0 ≤ n ∧ n < 200
      · skip
        refine g_fnS (as := [zI n]) (q := 4) (u' := 1) dX6_number_1 rfl ck_X6_99 rfl rfl (Nat.le_of_ble_eq_true rfl) (by decide) rfl (by decide) (s_X6_requireNumber_ok c1) rfl ?_
        refine g_iload_n (i := 2) (q := 5) dX6_number_4 rfl rfl rfl ?_
        refine g_iconst (q := 6) dX6_number_5 rfl ⟨by decide, by decide⟩ ?_
        refine g_fnS (as := [zI 0, zI 5]) (q := 9) (u' := 2) dX6_number_6 rfl ck_X6_246 rfl rfl (Nat.le_of_ble_eq_true rfl) (by decide) rfl (by decide) (s_X6_requireWhat_ok (by omega)) rfl ?_
        refine g_iload_n (i := 2) (q := 10) dX6_number_9 rfl rfl rfl ?_
        refine g_swIn (q := 0) (t := 40) dX6_number_10 (by decide) (by decide) rfl (by decide) ?_
        refine g_aload_n (i := 0) (q := 41) dX6_number_40 rfl rfl rfl ?_
        refine g_iload_n (i := 1) (q := 42) dX6_number_41 rfl rfl rfl ?_
        refine g_fnV (as := [zI n]) (q := 45) (u' := 2) dX6_number_42 rfl ck_X6_106 rfl rfl rfl (Nat.le_of_ble_eq_true rfl) (by decide) rfl (by decide) (s_X6_holderOf (by omega)) rfl ?_
        exact g_ret dX6_number_45 rfl (by decide) (by unfold o_number; (repeat (first | rw [if_pos (by omega)] | rw [if_neg (by omega)])); exact ⟨rfl, rfl⟩)
      · exact g_exS (as := [zI n]) dX6_number_1 ck_X6_99 rfl rfl (Nat.le_of_ble_eq_true rfl) (by decide) (by decide) rfl (s_X6_requireNumber_ex c1) (by unfold o_number; (repeat (first | rw [if_pos (by omega)] | rw [if_neg (by omega)])); exact ⟨rfl, rfl⟩)
    · skip
      refine g_iload_n (i := 1) (q := 1) dX6_number_0 rfl rfl rfl ?_
      by_cases c1 : 0 ≤ n ∧ n < 200
      · skip
        refine g_fnS (as := [zI n]) (q := 4) (u' := 1) dX6_number_1 rfl ck_X6_99 rfl rfl (Nat.le_of_ble_eq_true rfl) (by decide) rfl (by decide) (s_X6_requireNumber_ok c1) rfl ?_
        refine g_iload_n (i := 2) (q := 5) dX6_number_4 rfl rfl rfl ?_
        refine g_iconst (q := 6) dX6_number_5 rfl ⟨by decide, by decide⟩ ?_
        refine g_fnS (as := [zI 1, zI 5]) (q := 9) (u' := 2) dX6_number_6 rfl ck_X6_246 rfl rfl (Nat.le_of_ble_eq_true rfl) (by decide) rfl (by decide) (s_X6_requireWhat_ok (by omega)) rfl ?_
        refine g_iload_n (i := 2) (q := 10) dX6_number_9 rfl rfl rfl ?_
        refine g_swIn (q := 0) (t := 46) dX6_number_10 (by decide) (by decide) rfl (by decide) ?_
        refine g_aload_n (i := 0) (q := 47) dX6_number_46 rfl rfl rfl ?_
        refine g_getr (q := 50) dX6_number_47 rfl fk_X6_23 rfl rfl ?_
        refine g_iload_n (i := 1) (q := 51) dX6_number_50 rfl rfl rfl ?_
        refine g_aload_n (i := 0) (q := 52) dX6_number_51 rfl rfl rfl ?_
        refine g_getv (q := 55) (z := S.1 0) dX6_number_52 rfl fk_X6_55 rfl rfl rfl ?_
        by_cases c55 : S.1 0 ≤ (S).2.1 15 n
        · refine g_fnV (as := [zI n, zI (S.1 0)]) (q := 58) (u' := 2) dX6_number_55 rfl ck_X6_112 rfl rfl rfl (Nat.le_of_ble_eq_true rfl) (by decide) rfl (by decide) (s_X1_isInQuarantine_t (by omega) c55) rfl ?_
          refine g_fnS (as := [zI 1]) (q := 61) (u' := 2) dX6_number_58 rfl ck_X6_249 rfl rfl (Nat.le_of_ble_eq_true rfl) (by decide) rfl (by decide) (s_X6_asInt (by omega)) rfl ?_
          exact g_ret dX6_number_61 rfl (by decide) (by unfold o_number z_b; (repeat (first | rw [if_pos (by omega)] | rw [if_neg (by omega)])); exact ⟨rfl, rfl⟩)
        · refine g_fnV (as := [zI n, zI (S.1 0)]) (q := 58) (u' := 2) dX6_number_55 rfl ck_X6_112 rfl rfl rfl (Nat.le_of_ble_eq_true rfl) (by decide) rfl (by decide) (s_X1_isInQuarantine_f (by omega) c55) rfl ?_
          refine g_fnS (as := [zI 0]) (q := 61) (u' := 2) dX6_number_58 rfl ck_X6_249 rfl rfl (Nat.le_of_ble_eq_true rfl) (by decide) rfl (by decide) (s_X6_asInt (by omega)) rfl ?_
          exact g_ret dX6_number_61 rfl (by decide) (by unfold o_number z_b; (repeat (first | rw [if_pos (by omega)] | rw [if_neg (by omega)])); exact ⟨rfl, rfl⟩)
      · exact g_exS (as := [zI n]) dX6_number_1 ck_X6_99 rfl rfl (Nat.le_of_ble_eq_true rfl) (by decide) (by decide) rfl (s_X6_requireNumber_ex c1) (by unfold o_number z_b; (repeat (first | rw [if_pos (by omega)] | rw [if_neg (by omega)])); exact ⟨rfl, rfl⟩)
    · skip
      refine g_iload_n (i := 1) (q := 1) dX6_number_0 rfl rfl rfl ?_
      by_cases c1 : 0 ≤ n ∧ n < 200
      · skip
        refine g_fnS (as := [zI n]) (q := 4) (u' := 1) dX6_number_1 rfl ck_X6_99 rfl rfl (Nat.le_of_ble_eq_true rfl) (by decide) rfl (by decide) (s_X6_requireNumber_ok c1) rfl ?_
        refine g_iload_n (i := 2) (q := 5) dX6_number_4 rfl rfl rfl ?_
        refine g_iconst (q := 6) dX6_number_5 rfl ⟨by decide, by decide⟩ ?_
        refine g_fnS (as := [zI 2, zI 5]) (q := 9) (u' := 2) dX6_number_6 rfl ck_X6_246 rfl rfl (Nat.le_of_ble_eq_true rfl) (by decide) rfl (by decide) (s_X6_requireWhat_ok (by omega)) rfl ?_
        refine g_iload_n (i := 2) (q := 10) dX6_number_9 rfl rfl rfl ?_
        refine g_swIn (q := 0) (t := 62) dX6_number_10 (by decide) (by decide) rfl (by decide) ?_
        refine g_aload_n (i := 0) (q := 63) dX6_number_62 rfl rfl rfl ?_
        refine g_getr (q := 66) dX6_number_63 rfl fk_X6_23 rfl rfl ?_
        refine g_iload_n (i := 1) (q := 67) dX6_number_66 rfl rfl rfl ?_
        refine g_aload_n (i := 0) (q := 68) dX6_number_67 rfl rfl rfl ?_
        refine g_getv (q := 71) (z := S.1 0) dX6_number_68 rfl fk_X6_55 rfl rfl rfl ?_
        by_cases c71 : S.1 0 ≤ (S).2.1 16 n
        · refine g_fnV (as := [zI n, zI (S.1 0)]) (q := 74) (u' := 2) dX6_number_71 rfl ck_X6_253 rfl rfl rfl (Nat.le_of_ble_eq_true rfl) (by decide) rfl (by decide) (s_X1_isSilent_t (by omega) c71) rfl ?_
          refine g_fnS (as := [zI 1]) (q := 77) (u' := 2) dX6_number_74 rfl ck_X6_249 rfl rfl (Nat.le_of_ble_eq_true rfl) (by decide) rfl (by decide) (s_X6_asInt (by omega)) rfl ?_
          exact g_ret dX6_number_77 rfl (by decide) (by unfold o_number z_b; (repeat (first | rw [if_pos (by omega)] | rw [if_neg (by omega)])); exact ⟨rfl, rfl⟩)
        · refine g_fnV (as := [zI n, zI (S.1 0)]) (q := 74) (u' := 2) dX6_number_71 rfl ck_X6_253 rfl rfl rfl (Nat.le_of_ble_eq_true rfl) (by decide) rfl (by decide) (s_X1_isSilent_f (by omega) c71) rfl ?_
          refine g_fnS (as := [zI 0]) (q := 77) (u' := 2) dX6_number_74 rfl ck_X6_249 rfl rfl (Nat.le_of_ble_eq_true rfl) (by decide) rfl (by decide) (s_X6_asInt (by omega)) rfl ?_
          exact g_ret dX6_number_77 rfl (by decide) (by unfold o_number z_b; (repeat (first | rw [if_pos (by omega)] | rw [if_neg (by omega)])); exact ⟨rfl, rfl⟩)
      · exact g_exS (as := [zI n]) dX6_number_1 ck_X6_99 rfl rfl (Nat.le_of_ble_eq_true rfl) (by decide) (by decide) rfl (s_X6_requireNumber_ex c1) (by unfold o_number z_b; (repeat (first | rw [if_pos (by omega)] | rw [if_neg (by omega)])); exact ⟨rfl, rfl⟩)
    · skip
      refine g_iload_n (i := 1) (q := 1) dX6_number_0 rfl rfl rfl ?_
      by_cases c1 : 0 ≤ n ∧ n < 200
      · skip
        refine g_fnS (as := [zI n]) (q := 4) (u' := 1) dX6_number_1 rfl ck_X6_99 rfl rfl (Nat.le_of_ble_eq_true rfl) (by decide) rfl (by decide) (s_X6_requireNumber_ok c1) rfl ?_
        refine g_iload_n (i := 2) (q := 5) dX6_number_4 rfl rfl rfl ?_
        refine g_iconst (q := 6) dX6_number_5 rfl ⟨by decide, by decide⟩ ?_
        refine g_fnS (as := [zI 3, zI 5]) (q := 9) (u' := 2) dX6_number_6 rfl ck_X6_246 rfl rfl (Nat.le_of_ble_eq_true rfl) (by decide) rfl (by decide) (s_X6_requireWhat_ok (by omega)) rfl ?_
        refine g_iload_n (i := 2) (q := 10) dX6_number_9 rfl rfl rfl ?_
        refine g_swIn (q := 0) (t := 78) dX6_number_10 (by decide) (by decide) rfl (by decide) ?_
        refine g_aload_n (i := 0) (q := 79) dX6_number_78 rfl rfl rfl ?_
        refine g_getr (q := 82) dX6_number_79 rfl fk_X6_23 rfl rfl ?_
        refine g_iload_n (i := 1) (q := 83) dX6_number_82 rfl rfl rfl ?_
        refine g_aload_n (i := 0) (q := 84) dX6_number_83 rfl rfl rfl ?_
        refine g_getv (q := 87) (z := S.1 0) dX6_number_84 rfl fk_X6_55 rfl rfl rfl ?_
        by_cases c87 : S.1 0 ≤ (S).2.1 17 n
        · refine g_fnV (as := [zI n, zI (S.1 0)]) (q := 90) (u' := 2) dX6_number_87 rfl ck_X6_256 rfl rfl rfl (Nat.le_of_ble_eq_true rfl) (by decide) rfl (by decide) (s_X1_mayBeCalledBack_t (by omega) c87) rfl ?_
          refine g_fnS (as := [zI 1]) (q := 93) (u' := 2) dX6_number_90 rfl ck_X6_249 rfl rfl (Nat.le_of_ble_eq_true rfl) (by decide) rfl (by decide) (s_X6_asInt (by omega)) rfl ?_
          exact g_ret dX6_number_93 rfl (by decide) (by unfold o_number z_b; (repeat (first | rw [if_pos (by omega)] | rw [if_neg (by omega)])); exact ⟨rfl, rfl⟩)
        · refine g_fnV (as := [zI n, zI (S.1 0)]) (q := 90) (u' := 2) dX6_number_87 rfl ck_X6_256 rfl rfl rfl (Nat.le_of_ble_eq_true rfl) (by decide) rfl (by decide) (s_X1_mayBeCalledBack_f (by omega) c87) rfl ?_
          refine g_fnS (as := [zI 0]) (q := 93) (u' := 2) dX6_number_90 rfl ck_X6_249 rfl rfl (Nat.le_of_ble_eq_true rfl) (by decide) rfl (by decide) (s_X6_asInt (by omega)) rfl ?_
          exact g_ret dX6_number_93 rfl (by decide) (by unfold o_number z_b; (repeat (first | rw [if_pos (by omega)] | rw [if_neg (by omega)])); exact ⟨rfl, rfl⟩)
      · exact g_exS (as := [zI n]) dX6_number_1 ck_X6_99 rfl rfl (Nat.le_of_ble_eq_true rfl) (by decide) (by decide) rfl (s_X6_requireNumber_ex c1) (by unfold o_number z_b; (repeat (first | rw [if_pos (by omega)] | rw [if_neg (by omega)])); exact ⟨rfl, rfl⟩)
    · skip
      refine g_iload_n (i := 1) (q := 1) dX6_number_0 rfl rfl rfl ?_
      by_cases c1 : 0 ≤ n ∧ n < 200
      · skip
        refine g_fnS (as := [zI n]) (q := 4) (u' := 1) dX6_number_1 rfl ck_X6_99 rfl rfl (Nat.le_of_ble_eq_true rfl) (by decide) rfl (by decide) (s_X6_requireNumber_ok c1) rfl ?_
        refine g_iload_n (i := 2) (q := 5) dX6_number_4 rfl rfl rfl ?_
        refine g_iconst (q := 6) dX6_number_5 rfl ⟨by decide, by decide⟩ ?_
        refine g_fnS (as := [zI 4, zI 5]) (q := 9) (u' := 2) dX6_number_6 rfl ck_X6_246 rfl rfl (Nat.le_of_ble_eq_true rfl) (by decide) rfl (by decide) (s_X6_requireWhat_ok (by omega)) rfl ?_
        refine g_iload_n (i := 2) (q := 10) dX6_number_9 rfl rfl rfl ?_
        refine g_swOut (q := 0) (t := 94) dX6_number_10 (by decide) (by decide) ?_
        refine g_aload_n (i := 0) (q := 95) dX6_number_94 rfl rfl rfl ?_
        refine g_getr (q := 98) dX6_number_95 rfl fk_X6_30 rfl rfl ?_
        refine g_iload_n (i := 1) (q := 99) dX6_number_98 rfl rfl rfl ?_
        refine g_fnV (as := [zI n]) (q := 102) (u' := 2) dX6_number_99 rfl ck_X6_259 rfl rfl rfl (Nat.le_of_ble_eq_true rfl) (by decide) rfl (by decide) (s_X4_waitingFor hc h60) rfl ?_
        exact g_ret dX6_number_102 rfl (by decide) (by unfold o_number; (repeat (first | rw [if_pos (by omega)] | rw [if_neg (by omega)])); exact ⟨rfl, rfl⟩)
      · exact g_exS (as := [zI n]) dX6_number_1 ck_X6_99 rfl rfl (Nat.le_of_ble_eq_true rfl) (by decide) (by decide) rfl (s_X6_requireNumber_ex c1) (by unfold o_number; (repeat (first | rw [if_pos (by omega)] | rw [if_neg (by omega)])); exact ⟨rfl, rfl⟩)
  · skip
    refine g_iload_n (i := 1) (q := 1) dX6_number_0 rfl rfl rfl ?_
    by_cases c1 : 0 ≤ n ∧ n < 200
    · skip
      refine g_fnS (as := [zI n]) (q := 4) (u' := 1) dX6_number_1 rfl ck_X6_99 rfl rfl (Nat.le_of_ble_eq_true rfl) (by decide) rfl (by decide) (s_X6_requireNumber_ok c1) rfl ?_
      refine g_iload_n (i := 2) (q := 5) dX6_number_4 rfl rfl rfl ?_
      refine g_iconst (q := 6) dX6_number_5 rfl ⟨by decide, by decide⟩ ?_
      exact g_exS (as := [zI w, zI 5]) dX6_number_6 ck_X6_246 rfl rfl (Nat.le_of_ble_eq_true rfl) (by decide) (by decide) rfl (s_X6_requireWhat_ex hw) (by unfold o_number; (repeat (first | rw [if_pos (by omega)] | rw [if_neg (by omega)])); exact ⟨rfl, rfl⟩)
    · exact g_exS (as := [zI n]) dX6_number_1 ck_X6_99 rfl rfl (Nat.le_of_ble_eq_true rfl) (by decide) (by decide) rfl (s_X6_requireNumber_ex c1) (by unfold o_number; (repeat (first | rw [if_pos (by omega)] | rw [if_neg (by omega)])); exact ⟨rfl, rfl⟩)
def o_of (S : zS) (o w : Int) : zO := if ¬ (0 ≤ o ∧ o < S.1 1) then (.error xI, S) else if ¬ (0 ≤ w ∧ w < 6) then (.error xA, S) else
  (zI? (if w = 0 then S.2.1 19 o else if w = 1 then S.2.1 20 o else if w = 2 then S.2.1 21 o else if w = 3 then S.2.1 22 o else if w = 4 then S.2.1 23 o else S.2.1 24 o), S)
theorem c_of {S : zS} {o w : Int} (h60 : S.1 1 ≤ 60) : z_Out mX6_of [zR 0, zI o, zI w] S (o_of S o w) := by
  refine z_enter (by decide +kernel) rfl (z_n1 trivial (z_n1 trivial (z_n1 trivial z_n0))) (Nat.le_of_ble_eq_true rfl) ?_
  by_cases hw : 0 ≤ w ∧ w < 6
  · have hw5 : w = 0 ∨ w = 1 ∨ w = 2 ∨ w = 3 ∨ w = 4 ∨ w = 5 := by omega
    rcases hw5 with rfl | rfl | rfl | rfl | rfl | rfl
    · skip
      refine g_aload_n (i := 0) (q := 1) dX6_of_0 rfl rfl rfl ?_
      refine g_iload_n (i := 1) (q := 2) dX6_of_1 rfl rfl rfl ?_
      by_cases c2 : 0 ≤ o ∧ o < (S).1 1
      · skip
        refine g_fnV (as := [zI o]) (q := 5) (u' := 1) dX6_of_2 rfl ck_X6_184 rfl rfl rfl (Nat.le_of_ble_eq_true rfl) (by decide) rfl (by decide) (s_X6_requireOrder_ok c2) rfl ?_
        refine g_iload_n (i := 2) (q := 6) dX6_of_5 rfl rfl rfl ?_
        refine g_bipush (q := 8) dX6_of_6 rfl ⟨by decide, by decide⟩ (by decide) ?_
        refine g_fnS (as := [zI 0, zI 6]) (q := 11) (u' := 2) dX6_of_8 rfl ck_X6_246 rfl rfl (Nat.le_of_ble_eq_true rfl) (by decide) rfl (by decide) (s_X6_requireWhat_ok (by omega)) rfl ?_
        refine g_iload_n (i := 2) (q := 12) dX6_of_11 rfl rfl rfl ?_
        refine g_swIn (q := 0) (t := 48) dX6_of_12 (by decide) (by decide) rfl (by decide) ?_
        refine g_aload_n (i := 0) (q := 49) dX6_of_48 rfl rfl rfl ?_
        refine g_getr (q := 52) dX6_of_49 rfl fk_X6_30 rfl rfl ?_
        refine g_getr (q := 55) dX6_of_52 rfl fk_X6_187 rfl rfl ?_
        refine g_iload_n (i := 1) (q := 56) dX6_of_55 rfl rfl rfl ?_
        refine g_ildv (q := 57) (z := S.2.1 19 o) dX6_of_56 rfl ⟨by decide, rfl, rfl⟩ (by omega) (by omega) rfl ?_
        exact g_ret dX6_of_57 rfl (by decide) (by unfold o_of; (repeat (first | rw [if_pos (by omega)] | rw [if_neg (by omega)])); exact ⟨rfl, rfl⟩)
      · exact g_exV (as := [zI o]) dX6_of_2 ck_X6_184 rfl rfl rfl (Nat.le_of_ble_eq_true rfl) (by decide) (by decide) rfl (s_X6_requireOrder_ex c2) (by unfold o_of; (repeat (first | rw [if_pos (by omega)] | rw [if_neg (by omega)])); exact ⟨rfl, rfl⟩)
    · skip
      refine g_aload_n (i := 0) (q := 1) dX6_of_0 rfl rfl rfl ?_
      refine g_iload_n (i := 1) (q := 2) dX6_of_1 rfl rfl rfl ?_
      by_cases c2 : 0 ≤ o ∧ o < (S).1 1
      · skip
        refine g_fnV (as := [zI o]) (q := 5) (u' := 1) dX6_of_2 rfl ck_X6_184 rfl rfl rfl (Nat.le_of_ble_eq_true rfl) (by decide) rfl (by decide) (s_X6_requireOrder_ok c2) rfl ?_
        refine g_iload_n (i := 2) (q := 6) dX6_of_5 rfl rfl rfl ?_
        refine g_bipush (q := 8) dX6_of_6 rfl ⟨by decide, by decide⟩ (by decide) ?_
        refine g_fnS (as := [zI 1, zI 6]) (q := 11) (u' := 2) dX6_of_8 rfl ck_X6_246 rfl rfl (Nat.le_of_ble_eq_true rfl) (by decide) rfl (by decide) (s_X6_requireWhat_ok (by omega)) rfl ?_
        refine g_iload_n (i := 2) (q := 12) dX6_of_11 rfl rfl rfl ?_
        refine g_swIn (q := 0) (t := 58) dX6_of_12 (by decide) (by decide) rfl (by decide) ?_
        refine g_aload_n (i := 0) (q := 59) dX6_of_58 rfl rfl rfl ?_
        refine g_getr (q := 62) dX6_of_59 rfl fk_X6_30 rfl rfl ?_
        refine g_getr (q := 65) dX6_of_62 rfl fk_X6_262 rfl rfl ?_
        refine g_iload_n (i := 1) (q := 66) dX6_of_65 rfl rfl rfl ?_
        refine g_ildv (q := 67) (z := S.2.1 20 o) dX6_of_66 rfl ⟨by decide, rfl, rfl⟩ (by omega) (by omega) rfl ?_
        exact g_ret dX6_of_67 rfl (by decide) (by unfold o_of; (repeat (first | rw [if_pos (by omega)] | rw [if_neg (by omega)])); exact ⟨rfl, rfl⟩)
      · exact g_exV (as := [zI o]) dX6_of_2 ck_X6_184 rfl rfl rfl (Nat.le_of_ble_eq_true rfl) (by decide) (by decide) rfl (s_X6_requireOrder_ex c2) (by unfold o_of; (repeat (first | rw [if_pos (by omega)] | rw [if_neg (by omega)])); exact ⟨rfl, rfl⟩)
    · skip
      refine g_aload_n (i := 0) (q := 1) dX6_of_0 rfl rfl rfl ?_
      refine g_iload_n (i := 1) (q := 2) dX6_of_1 rfl rfl rfl ?_
      by_cases c2 : 0 ≤ o ∧ o < (S).1 1
      · skip
        refine g_fnV (as := [zI o]) (q := 5) (u' := 1) dX6_of_2 rfl ck_X6_184 rfl rfl rfl (Nat.le_of_ble_eq_true rfl) (by decide) rfl (by decide) (s_X6_requireOrder_ok c2) rfl ?_
        refine g_iload_n (i := 2) (q := 6) dX6_of_5 rfl rfl rfl ?_
        refine g_bipush (q := 8) dX6_of_6 rfl ⟨by decide, by decide⟩ (by decide) ?_
        refine g_fnS (as := [zI 2, zI 6]) (q := 11) (u' := 2) dX6_of_8 rfl ck_X6_246 rfl rfl (Nat.le_of_ble_eq_true rfl) (by decide) rfl (by decide) (s_X6_requireWhat_ok (by omega)) rfl ?_
        refine g_iload_n (i := 2) (q := 12) dX6_of_11 rfl rfl rfl ?_
        refine g_swIn (q := 0) (t := 68) dX6_of_12 (by decide) (by decide) rfl (by decide) ?_
        refine g_aload_n (i := 0) (q := 69) dX6_of_68 rfl rfl rfl ?_
        refine g_getr (q := 72) dX6_of_69 rfl fk_X6_30 rfl rfl ?_
        refine g_getr (q := 75) dX6_of_72 rfl fk_X6_207 rfl rfl ?_
        refine g_iload_n (i := 1) (q := 76) dX6_of_75 rfl rfl rfl ?_
        refine g_ildv (q := 77) (z := S.2.1 21 o) dX6_of_76 rfl ⟨by decide, rfl, rfl⟩ (by omega) (by omega) rfl ?_
        exact g_ret dX6_of_77 rfl (by decide) (by unfold o_of; (repeat (first | rw [if_pos (by omega)] | rw [if_neg (by omega)])); exact ⟨rfl, rfl⟩)
      · exact g_exV (as := [zI o]) dX6_of_2 ck_X6_184 rfl rfl rfl (Nat.le_of_ble_eq_true rfl) (by decide) (by decide) rfl (s_X6_requireOrder_ex c2) (by unfold o_of; (repeat (first | rw [if_pos (by omega)] | rw [if_neg (by omega)])); exact ⟨rfl, rfl⟩)
    · skip
      refine g_aload_n (i := 0) (q := 1) dX6_of_0 rfl rfl rfl ?_
      refine g_iload_n (i := 1) (q := 2) dX6_of_1 rfl rfl rfl ?_
      by_cases c2 : 0 ≤ o ∧ o < (S).1 1
      · skip
        refine g_fnV (as := [zI o]) (q := 5) (u' := 1) dX6_of_2 rfl ck_X6_184 rfl rfl rfl (Nat.le_of_ble_eq_true rfl) (by decide) rfl (by decide) (s_X6_requireOrder_ok c2) rfl ?_
        refine g_iload_n (i := 2) (q := 6) dX6_of_5 rfl rfl rfl ?_
        refine g_bipush (q := 8) dX6_of_6 rfl ⟨by decide, by decide⟩ (by decide) ?_
        refine g_fnS (as := [zI 3, zI 6]) (q := 11) (u' := 2) dX6_of_8 rfl ck_X6_246 rfl rfl (Nat.le_of_ble_eq_true rfl) (by decide) rfl (by decide) (s_X6_requireWhat_ok (by omega)) rfl ?_
        refine g_iload_n (i := 2) (q := 12) dX6_of_11 rfl rfl rfl ?_
        refine g_swIn (q := 0) (t := 78) dX6_of_12 (by decide) (by decide) rfl (by decide) ?_
        refine g_aload_n (i := 0) (q := 79) dX6_of_78 rfl rfl rfl ?_
        refine g_getr (q := 82) dX6_of_79 rfl fk_X6_30 rfl rfl ?_
        refine g_getr (q := 85) dX6_of_82 rfl fk_X6_213 rfl rfl ?_
        refine g_iload_n (i := 1) (q := 86) dX6_of_85 rfl rfl rfl ?_
        refine g_ildv (q := 87) (z := S.2.1 22 o) dX6_of_86 rfl ⟨by decide, rfl, rfl⟩ (by omega) (by omega) rfl ?_
        exact g_ret dX6_of_87 rfl (by decide) (by unfold o_of; (repeat (first | rw [if_pos (by omega)] | rw [if_neg (by omega)])); exact ⟨rfl, rfl⟩)
      · exact g_exV (as := [zI o]) dX6_of_2 ck_X6_184 rfl rfl rfl (Nat.le_of_ble_eq_true rfl) (by decide) (by decide) rfl (s_X6_requireOrder_ex c2) (by unfold o_of; (repeat (first | rw [if_pos (by omega)] | rw [if_neg (by omega)])); exact ⟨rfl, rfl⟩)
    · skip
      refine g_aload_n (i := 0) (q := 1) dX6_of_0 rfl rfl rfl ?_
      refine g_iload_n (i := 1) (q := 2) dX6_of_1 rfl rfl rfl ?_
      by_cases c2 : 0 ≤ o ∧ o < (S).1 1
      · skip
        refine g_fnV (as := [zI o]) (q := 5) (u' := 1) dX6_of_2 rfl ck_X6_184 rfl rfl rfl (Nat.le_of_ble_eq_true rfl) (by decide) rfl (by decide) (s_X6_requireOrder_ok c2) rfl ?_
        refine g_iload_n (i := 2) (q := 6) dX6_of_5 rfl rfl rfl ?_
        refine g_bipush (q := 8) dX6_of_6 rfl ⟨by decide, by decide⟩ (by decide) ?_
        refine g_fnS (as := [zI 4, zI 6]) (q := 11) (u' := 2) dX6_of_8 rfl ck_X6_246 rfl rfl (Nat.le_of_ble_eq_true rfl) (by decide) rfl (by decide) (s_X6_requireWhat_ok (by omega)) rfl ?_
        refine g_iload_n (i := 2) (q := 12) dX6_of_11 rfl rfl rfl ?_
        refine g_swIn (q := 0) (t := 88) dX6_of_12 (by decide) (by decide) rfl (by decide) ?_
        refine g_aload_n (i := 0) (q := 89) dX6_of_88 rfl rfl rfl ?_
        refine g_getr (q := 92) dX6_of_89 rfl fk_X6_30 rfl rfl ?_
        refine g_getr (q := 95) dX6_of_92 rfl fk_X6_204 rfl rfl ?_
        refine g_iload_n (i := 1) (q := 96) dX6_of_95 rfl rfl rfl ?_
        refine g_ildv (q := 97) (z := S.2.1 23 o) dX6_of_96 rfl ⟨by decide, rfl, rfl⟩ (by omega) (by omega) rfl ?_
        exact g_ret dX6_of_97 rfl (by decide) (by unfold o_of; (repeat (first | rw [if_pos (by omega)] | rw [if_neg (by omega)])); exact ⟨rfl, rfl⟩)
      · exact g_exV (as := [zI o]) dX6_of_2 ck_X6_184 rfl rfl rfl (Nat.le_of_ble_eq_true rfl) (by decide) (by decide) rfl (s_X6_requireOrder_ex c2) (by unfold o_of; (repeat (first | rw [if_pos (by omega)] | rw [if_neg (by omega)])); exact ⟨rfl, rfl⟩)
    · skip
      refine g_aload_n (i := 0) (q := 1) dX6_of_0 rfl rfl rfl ?_
      refine g_iload_n (i := 1) (q := 2) dX6_of_1 rfl rfl rfl ?_
      by_cases c2 : 0 ≤ o ∧ o < (S).1 1
      · skip
        refine g_fnV (as := [zI o]) (q := 5) (u' := 1) dX6_of_2 rfl ck_X6_184 rfl rfl rfl (Nat.le_of_ble_eq_true rfl) (by decide) rfl (by decide) (s_X6_requireOrder_ok c2) rfl ?_
        refine g_iload_n (i := 2) (q := 6) dX6_of_5 rfl rfl rfl ?_
        refine g_bipush (q := 8) dX6_of_6 rfl ⟨by decide, by decide⟩ (by decide) ?_
        refine g_fnS (as := [zI 5, zI 6]) (q := 11) (u' := 2) dX6_of_8 rfl ck_X6_246 rfl rfl (Nat.le_of_ble_eq_true rfl) (by decide) rfl (by decide) (s_X6_requireWhat_ok (by omega)) rfl ?_
        refine g_iload_n (i := 2) (q := 12) dX6_of_11 rfl rfl rfl ?_
        refine g_swOut (q := 0) (t := 98) dX6_of_12 (by decide) (by decide) ?_
        refine g_aload_n (i := 0) (q := 99) dX6_of_98 rfl rfl rfl ?_
        refine g_getr (q := 102) dX6_of_99 rfl fk_X6_30 rfl rfl ?_
        refine g_getr (q := 105) dX6_of_102 rfl fk_X6_190 rfl rfl ?_
        refine g_iload_n (i := 1) (q := 106) dX6_of_105 rfl rfl rfl ?_
        refine g_ildv (q := 107) (z := S.2.1 24 o) dX6_of_106 rfl ⟨by decide, rfl, rfl⟩ (by omega) (by omega) rfl ?_
        exact g_ret dX6_of_107 rfl (by decide) (by unfold o_of; (repeat (first | rw [if_pos (by omega)] | rw [if_neg (by omega)])); exact ⟨rfl, rfl⟩)
      · exact g_exV (as := [zI o]) dX6_of_2 ck_X6_184 rfl rfl rfl (Nat.le_of_ble_eq_true rfl) (by decide) (by decide) rfl (s_X6_requireOrder_ex c2) (by unfold o_of; (repeat (first | rw [if_pos (by omega)] | rw [if_neg (by omega)])); exact ⟨rfl, rfl⟩)
  · skip
    refine g_aload_n (i := 0) (q := 1) dX6_of_0 rfl rfl rfl ?_
    refine g_iload_n (i := 1) (q := 2) dX6_of_1 rfl rfl rfl ?_
    by_cases c2 : 0 ≤ o ∧ o < (S).1 1
    · skip
      refine g_fnV (as := [zI o]) (q := 5) (u' := 1) dX6_of_2 rfl ck_X6_184 rfl rfl rfl (Nat.le_of_ble_eq_true rfl) (by decide) rfl (by decide) (s_X6_requireOrder_ok c2) rfl ?_
      refine g_iload_n (i := 2) (q := 6) dX6_of_5 rfl rfl rfl ?_
      refine g_bipush (q := 8) dX6_of_6 rfl ⟨by decide, by decide⟩ (by decide) ?_
      exact g_exS (as := [zI w, zI 6]) dX6_of_8 ck_X6_246 rfl rfl (Nat.le_of_ble_eq_true rfl) (by decide) (by decide) rfl (s_X6_requireWhat_ex hw) (by unfold o_of; (repeat (first | rw [if_pos (by omega)] | rw [if_neg (by omega)])); exact ⟨rfl, rfl⟩)
    · exact g_exV (as := [zI o]) dX6_of_2 ck_X6_184 rfl rfl rfl (Nat.le_of_ble_eq_true rfl) (by decide) (by decide) rfl (s_X6_requireOrder_ex c2) (by unfold o_of; (repeat (first | rw [if_pos (by omega)] | rw [if_neg (by omega)])); exact ⟨rfl, rfl⟩)
def o_room (S : zS) (c : Nat) (m : Int) : zO := if ¬ (0 ≤ m ∧ m ≤ 10999) then (.error xA, S) else if ¬ m % 100 < 20 ∨ m ≤ S.1 0 then (zI? 0, S) else (zI? (3 - x_cwa S m c), S)
theorem c_room {S : zS} {m : Int} {c : Nat} (hc : S.1 1 = c) (h60 : c ≤ 60) : z_Out mX6_room [zR 0, zI m] S (o_room S c m) := by
  have hle := x_cwa_le S m c
  refine z_enter (by decide +kernel) rfl (z_n1 trivial (z_n1 trivial z_n0)) (Nat.le_of_ble_eq_true rfl) ?_
  refine g_iload_n (i := 1) (q := 1) dX6_room_0 rfl rfl rfl ?_
  refine g_if_lt (t := 11) (q := 4) dX6_room_1 (by decide) rfl (fun h1 => ?_) (fun h1 => ?_)
  · exact g_throw (text := "the minute is out of range") rfl rfl z_tk_A (by decide +kernel) dX6_room_11 dX6_room_14 dX6_room_15 dX6_room_17 dX6_room_20 (by decide) (by decide) (by decide) (by unfold o_room; (repeat (first | rw [if_pos (by omega)] | rw [if_neg (by omega)])); exact ⟨rfl, rfl⟩)
  · refine g_iload_n (i := 1) (q := 5) dX6_room_4 rfl rfl rfl ?_
    refine g_sipush (q := 8) dX6_room_5 rfl ⟨by decide, by decide⟩ (by decide) ?_
    refine g_icmp_le (t := 21) (q := 11) dX6_room_8 (by decide) rfl (fun h8 => ?_) (fun h8 => ?_)
    · refine g_iload_n (i := 1) (q := 22) dX6_room_21 rfl rfl rfl ?_
      by_cases c22 : m % 100 < 20
      · refine g_fnS (as := [zI m]) (q := 25) (u' := 0) dX6_room_22 rfl ck_X6_265 rfl rfl (Nat.le_of_ble_eq_true rfl) (by decide) rfl (by decide) (s_X6_isInWindow_t (by omega) c22) rfl ?_
        refine g_if_eq (t := 36) (q := 28) dX6_room_25 (by decide) rfl (fun h25 => (False.elim (by omega))) (fun h25 => ?_)
        refine g_iload_n (i := 1) (q := 29) dX6_room_28 rfl rfl rfl ?_
        refine g_aload_n (i := 0) (q := 30) dX6_room_29 rfl rfl rfl ?_
        refine g_getv (q := 33) (z := S.1 0) dX6_room_30 rfl fk_X6_55 rfl rfl rfl ?_
        refine g_icmp_gt (t := 38) (q := 36) dX6_room_33 (by decide) rfl (fun h33 => ?_) (fun h33 => ?_)
        · refine g_iconst (q := 39) dX6_room_38 rfl ⟨by decide, by decide⟩ ?_
          refine g_aload_n (i := 0) (q := 40) dX6_room_39 rfl rfl rfl ?_
          refine g_getr (q := 43) dX6_room_40 rfl fk_X6_30 rfl rfl ?_
          refine g_iload_n (i := 1) (q := 44) dX6_room_43 rfl rfl rfl ?_
          refine g_fnV (as := [zI m]) (q := 47) (u' := 0) dX6_room_44 rfl ck_X6_268 rfl rfl rfl (Nat.le_of_ble_eq_true rfl) (by decide) rfl (by decide) (s_X4_countWaitingAt hc h60) rfl ?_
          refine g_isub (q := 48) dX6_room_47 rfl (by constructor <;> omega) ?_
          exact g_ret dX6_room_48 rfl (by decide) (by unfold o_room; (repeat (first | rw [if_pos (by omega)] | rw [if_neg (by omega)])); exact ⟨rfl, rfl⟩)
        · refine g_iconst (q := 37) dX6_room_36 rfl ⟨by decide, by decide⟩ ?_
          exact g_ret dX6_room_37 rfl (by decide) (by unfold o_room; (repeat (first | rw [if_pos (by omega)] | rw [if_neg (by omega)])); exact ⟨rfl, rfl⟩)
      · refine g_fnS (as := [zI m]) (q := 25) (u' := 0) dX6_room_22 rfl ck_X6_265 rfl rfl (Nat.le_of_ble_eq_true rfl) (by decide) rfl (by decide) (s_X6_isInWindow_f (by omega) c22) rfl ?_
        refine g_if_eq (t := 36) (q := 28) dX6_room_25 (by decide) rfl (fun h25 => ?_) (fun h25 => (False.elim (by omega)))
        refine g_iconst (q := 37) dX6_room_36 rfl ⟨by decide, by decide⟩ ?_
        exact g_ret dX6_room_37 rfl (by decide) (by unfold o_room; (repeat (first | rw [if_pos (by omega)] | rw [if_neg (by omega)])); exact ⟨rfl, rfl⟩)
    · exact g_throw (text := "the minute is out of range") rfl rfl z_tk_A (by decide +kernel) dX6_room_11 dX6_room_14 dX6_room_15 dX6_room_17 dX6_room_20 (by decide) (by decide) (by decide) (by unfold o_room; (repeat (first | rw [if_pos (by omega)] | rw [if_neg (by omega)])); exact ⟨rfl, rfl⟩)
def o_firm (S : zS) (f w : Int) : zO := if ¬ (0 ≤ f ∧ f < 6) then (.error xI, S) else if ¬ (0 ≤ w ∧ w < 7) then (.error xA, S) else
  (zI? (if w = 0 then S.2.1 9 f else if w = 1 then x_cb S f 20 else if w = 2 then x_sb S f 200 else if w = 3 then S.2.1 10 f else if w = 4 then S.2.1 11 f else if w = 5 then S.2.1 12 f else S.1 2 - S.2.1 28 f), S)
theorem c_firm {S : zS} {f w : Int} (h2 : 0 ≤ S.1 2 ∧ S.1 2 ≤ 600) (hk : ∀ f : Int, 0 ≤ f → f < 6 → (0 ≤ S.2.1 28 f ∧ S.2.1 28 f ≤ S.1 2) ∧ (S.2.1 9 f = 0 ∨ S.2.1 9 f = 1) ∧ (S.2.1 10 f = 0 ∨ S.2.1 10 f = 1)) : z_Out mX6_firm [zR 0, zI f, zI w] S (o_firm S f w) := by
  refine z_enter (by decide +kernel) rfl (z_n1 trivial (z_n1 trivial (z_n1 trivial z_n0))) (Nat.le_of_ble_eq_true rfl) ?_
  by_cases hw : 0 ≤ w ∧ w < 7
  · have hw5 : w = 0 ∨ w = 1 ∨ w = 2 ∨ w = 3 ∨ w = 4 ∨ w = 5 ∨ w = 6 := by omega
    rcases hw5 with rfl | rfl | rfl | rfl | rfl | rfl | rfl
    · skip
      refine g_iload_n (i := 1) (q := 1) dX6_firm_0 rfl rfl rfl ?_
      by_cases c1 : 0 ≤ f ∧ f < 6
      · skip
        refine g_fnS (as := [zI f]) (q := 4) (u' := 1) dX6_firm_1 rfl ck_X6_150 rfl rfl (Nat.le_of_ble_eq_true rfl) (by decide) rfl (by decide) (s_X6_requireFirm_ok c1) rfl ?_
        have hkf := hk f (by omega) (by omega)
        refine g_iload_n (i := 2) (q := 5) dX6_firm_4 rfl rfl rfl ?_
        refine g_bipush (q := 7) dX6_firm_5 rfl ⟨by decide, by decide⟩ (by decide) ?_
        refine g_fnS (as := [zI 0, zI 7]) (q := 10) (u' := 2) dX6_firm_7 rfl ck_X6_246 rfl rfl (Nat.le_of_ble_eq_true rfl) (by decide) rfl (by decide) (s_X6_requireWhat_ok (by omega)) rfl ?_
        refine g_iload_n (i := 2) (q := 11) dX6_firm_10 rfl rfl rfl ?_
        refine g_swIn (q := 0) (t := 48) dX6_firm_11 (by decide) (by decide) rfl (by decide) ?_
        refine g_aload_n (i := 0) (q := 49) dX6_firm_48 rfl rfl rfl ?_
        refine g_getr (q := 52) dX6_firm_49 rfl fk_X6_16 rfl rfl ?_
        refine g_getr (q := 55) dX6_firm_52 rfl fk_X6_79 rfl rfl ?_
        refine g_iload_n (i := 1) (q := 56) dX6_firm_55 rfl rfl rfl ?_
        refine g_zldv (q := 57) (z := S.2.1 9 f) dX6_firm_56 rfl ⟨by decide, rfl, rfl⟩ (by omega) (by omega) rfl ?_
        refine g_fnS (as := [zI (S.2.1 9 f)]) (q := 60) (u' := 2) dX6_firm_57 rfl ck_X6_249 rfl rfl (Nat.le_of_ble_eq_true rfl) (by decide) rfl (by decide) (s_X6_asInt (by omega)) rfl ?_
        exact g_ret dX6_firm_60 rfl (by decide) (by unfold o_firm; (repeat (first | rw [if_pos (by omega)] | rw [if_neg (by omega)])); exact ⟨rfl, rfl⟩)
      · exact g_exS (as := [zI f]) dX6_firm_1 ck_X6_150 rfl rfl (Nat.le_of_ble_eq_true rfl) (by decide) (by decide) rfl (s_X6_requireFirm_ex c1) (by unfold o_firm; (repeat (first | rw [if_pos (by omega)] | rw [if_neg (by omega)])); exact ⟨rfl, rfl⟩)
    · skip
      refine g_iload_n (i := 1) (q := 1) dX6_firm_0 rfl rfl rfl ?_
      by_cases c1 : 0 ≤ f ∧ f < 6
      · skip
        refine g_fnS (as := [zI f]) (q := 4) (u' := 1) dX6_firm_1 rfl ck_X6_150 rfl rfl (Nat.le_of_ble_eq_true rfl) (by decide) rfl (by decide) (s_X6_requireFirm_ok c1) rfl ?_
        refine g_iload_n (i := 2) (q := 5) dX6_firm_4 rfl rfl rfl ?_
        refine g_bipush (q := 7) dX6_firm_5 rfl ⟨by decide, by decide⟩ (by decide) ?_
        refine g_fnS (as := [zI 1, zI 7]) (q := 10) (u' := 2) dX6_firm_7 rfl ck_X6_246 rfl rfl (Nat.le_of_ble_eq_true rfl) (by decide) rfl (by decide) (s_X6_requireWhat_ok (by omega)) rfl ?_
        refine g_iload_n (i := 2) (q := 11) dX6_firm_10 rfl rfl rfl ?_
        refine g_swIn (q := 0) (t := 61) dX6_firm_11 (by decide) (by decide) rfl (by decide) ?_
        refine g_aload_n (i := 0) (q := 62) dX6_firm_61 rfl rfl rfl ?_
        refine g_iload_n (i := 1) (q := 63) dX6_firm_62 rfl rfl rfl ?_
        refine g_fnV (as := [zI f]) (q := 66) (u' := 2) dX6_firm_63 rfl ck_X6_88 rfl rfl rfl (Nat.le_of_ble_eq_true rfl) (by decide) rfl (by decide) (s_X6_countBlocksOf) rfl ?_
        exact g_ret dX6_firm_66 rfl (by decide) (by unfold o_firm; (repeat (first | rw [if_pos (by omega)] | rw [if_neg (by omega)])); exact ⟨rfl, rfl⟩)
      · exact g_exS (as := [zI f]) dX6_firm_1 ck_X6_150 rfl rfl (Nat.le_of_ble_eq_true rfl) (by decide) (by decide) rfl (s_X6_requireFirm_ex c1) (by unfold o_firm; (repeat (first | rw [if_pos (by omega)] | rw [if_neg (by omega)])); exact ⟨rfl, rfl⟩)
    · skip
      refine g_iload_n (i := 1) (q := 1) dX6_firm_0 rfl rfl rfl ?_
      by_cases c1 : 0 ≤ f ∧ f < 6
      · skip
        refine g_fnS (as := [zI f]) (q := 4) (u' := 1) dX6_firm_1 rfl ck_X6_150 rfl rfl (Nat.le_of_ble_eq_true rfl) (by decide) rfl (by decide) (s_X6_requireFirm_ok c1) rfl ?_
        refine g_iload_n (i := 2) (q := 5) dX6_firm_4 rfl rfl rfl ?_
        refine g_bipush (q := 7) dX6_firm_5 rfl ⟨by decide, by decide⟩ (by decide) ?_
        refine g_fnS (as := [zI 2, zI 7]) (q := 10) (u' := 2) dX6_firm_7 rfl ck_X6_246 rfl rfl (Nat.le_of_ble_eq_true rfl) (by decide) rfl (by decide) (s_X6_requireWhat_ok (by omega)) rfl ?_
        refine g_iload_n (i := 2) (q := 11) dX6_firm_10 rfl rfl rfl ?_
        refine g_swIn (q := 0) (t := 67) dX6_firm_11 (by decide) (by decide) rfl (by decide) ?_
        refine g_aload_n (i := 0) (q := 68) dX6_firm_67 rfl rfl rfl ?_
        refine g_getr (q := 71) dX6_firm_68 rfl fk_X6_23 rfl rfl ?_
        refine g_iload_n (i := 1) (q := 72) dX6_firm_71 rfl rfl rfl ?_
        refine g_fnV (as := [zI f]) (q := 75) (u' := 2) dX6_firm_72 rfl ck_X6_271 rfl rfl rfl (Nat.le_of_ble_eq_true rfl) (by decide) rfl (by decide) (s_X1_countServedBy) rfl ?_
        exact g_ret dX6_firm_75 rfl (by decide) (by unfold o_firm; (repeat (first | rw [if_pos (by omega)] | rw [if_neg (by omega)])); exact ⟨rfl, rfl⟩)
      · exact g_exS (as := [zI f]) dX6_firm_1 ck_X6_150 rfl rfl (Nat.le_of_ble_eq_true rfl) (by decide) (by decide) rfl (s_X6_requireFirm_ex c1) (by unfold o_firm; (repeat (first | rw [if_pos (by omega)] | rw [if_neg (by omega)])); exact ⟨rfl, rfl⟩)
    · skip
      refine g_iload_n (i := 1) (q := 1) dX6_firm_0 rfl rfl rfl ?_
      by_cases c1 : 0 ≤ f ∧ f < 6
      · skip
        refine g_fnS (as := [zI f]) (q := 4) (u' := 1) dX6_firm_1 rfl ck_X6_150 rfl rfl (Nat.le_of_ble_eq_true rfl) (by decide) rfl (by decide) (s_X6_requireFirm_ok c1) rfl ?_
        have hkf := hk f (by omega) (by omega)
        refine g_iload_n (i := 2) (q := 5) dX6_firm_4 rfl rfl rfl ?_
        refine g_bipush (q := 7) dX6_firm_5 rfl ⟨by decide, by decide⟩ (by decide) ?_
        refine g_fnS (as := [zI 3, zI 7]) (q := 10) (u' := 2) dX6_firm_7 rfl ck_X6_246 rfl rfl (Nat.le_of_ble_eq_true rfl) (by decide) rfl (by decide) (s_X6_requireWhat_ok (by omega)) rfl ?_
        refine g_iload_n (i := 2) (q := 11) dX6_firm_10 rfl rfl rfl ?_
        refine g_swIn (q := 0) (t := 76) dX6_firm_11 (by decide) (by decide) rfl (by decide) ?_
        refine g_aload_n (i := 0) (q := 77) dX6_firm_76 rfl rfl rfl ?_
        refine g_getr (q := 80) dX6_firm_77 rfl fk_X6_16 rfl rfl ?_
        refine g_getr (q := 83) dX6_firm_80 rfl fk_X6_234 rfl rfl ?_
        refine g_iload_n (i := 1) (q := 84) dX6_firm_83 rfl rfl rfl ?_
        refine g_zldv (q := 85) (z := S.2.1 10 f) dX6_firm_84 rfl ⟨by decide, rfl, rfl⟩ (by omega) (by omega) rfl ?_
        refine g_fnS (as := [zI (S.2.1 10 f)]) (q := 88) (u' := 2) dX6_firm_85 rfl ck_X6_249 rfl rfl (Nat.le_of_ble_eq_true rfl) (by decide) rfl (by decide) (s_X6_asInt (by omega)) rfl ?_
        exact g_ret dX6_firm_88 rfl (by decide) (by unfold o_firm; (repeat (first | rw [if_pos (by omega)] | rw [if_neg (by omega)])); exact ⟨rfl, rfl⟩)
      · exact g_exS (as := [zI f]) dX6_firm_1 ck_X6_150 rfl rfl (Nat.le_of_ble_eq_true rfl) (by decide) (by decide) rfl (s_X6_requireFirm_ex c1) (by unfold o_firm; (repeat (first | rw [if_pos (by omega)] | rw [if_neg (by omega)])); exact ⟨rfl, rfl⟩)
    · skip
      refine g_iload_n (i := 1) (q := 1) dX6_firm_0 rfl rfl rfl ?_
      by_cases c1 : 0 ≤ f ∧ f < 6
      · skip
        refine g_fnS (as := [zI f]) (q := 4) (u' := 1) dX6_firm_1 rfl ck_X6_150 rfl rfl (Nat.le_of_ble_eq_true rfl) (by decide) rfl (by decide) (s_X6_requireFirm_ok c1) rfl ?_
        refine g_iload_n (i := 2) (q := 5) dX6_firm_4 rfl rfl rfl ?_
        refine g_bipush (q := 7) dX6_firm_5 rfl ⟨by decide, by decide⟩ (by decide) ?_
        refine g_fnS (as := [zI 4, zI 7]) (q := 10) (u' := 2) dX6_firm_7 rfl ck_X6_246 rfl rfl (Nat.le_of_ble_eq_true rfl) (by decide) rfl (by decide) (s_X6_requireWhat_ok (by omega)) rfl ?_
        refine g_iload_n (i := 2) (q := 11) dX6_firm_10 rfl rfl rfl ?_
        refine g_swIn (q := 0) (t := 89) dX6_firm_11 (by decide) (by decide) rfl (by decide) ?_
        refine g_aload_n (i := 0) (q := 90) dX6_firm_89 rfl rfl rfl ?_
        refine g_getr (q := 93) dX6_firm_90 rfl fk_X6_16 rfl rfl ?_
        refine g_getr (q := 96) dX6_firm_93 rfl fk_X6_231 rfl rfl ?_
        refine g_iload_n (i := 1) (q := 97) dX6_firm_96 rfl rfl rfl ?_
        refine g_ildv (q := 98) (z := S.2.1 11 f) dX6_firm_97 rfl ⟨by decide, rfl, rfl⟩ (by omega) (by omega) rfl ?_
        exact g_ret dX6_firm_98 rfl (by decide) (by unfold o_firm; (repeat (first | rw [if_pos (by omega)] | rw [if_neg (by omega)])); exact ⟨rfl, rfl⟩)
      · exact g_exS (as := [zI f]) dX6_firm_1 ck_X6_150 rfl rfl (Nat.le_of_ble_eq_true rfl) (by decide) (by decide) rfl (s_X6_requireFirm_ex c1) (by unfold o_firm; (repeat (first | rw [if_pos (by omega)] | rw [if_neg (by omega)])); exact ⟨rfl, rfl⟩)
    · skip
      refine g_iload_n (i := 1) (q := 1) dX6_firm_0 rfl rfl rfl ?_
      by_cases c1 : 0 ≤ f ∧ f < 6
      · skip
        refine g_fnS (as := [zI f]) (q := 4) (u' := 1) dX6_firm_1 rfl ck_X6_150 rfl rfl (Nat.le_of_ble_eq_true rfl) (by decide) rfl (by decide) (s_X6_requireFirm_ok c1) rfl ?_
        refine g_iload_n (i := 2) (q := 5) dX6_firm_4 rfl rfl rfl ?_
        refine g_bipush (q := 7) dX6_firm_5 rfl ⟨by decide, by decide⟩ (by decide) ?_
        refine g_fnS (as := [zI 5, zI 7]) (q := 10) (u' := 2) dX6_firm_7 rfl ck_X6_246 rfl rfl (Nat.le_of_ble_eq_true rfl) (by decide) rfl (by decide) (s_X6_requireWhat_ok (by omega)) rfl ?_
        refine g_iload_n (i := 2) (q := 11) dX6_firm_10 rfl rfl rfl ?_
        refine g_swIn (q := 0) (t := 99) dX6_firm_11 (by decide) (by decide) rfl (by decide) ?_
        refine g_aload_n (i := 0) (q := 100) dX6_firm_99 rfl rfl rfl ?_
        refine g_getr (q := 103) dX6_firm_100 rfl fk_X6_16 rfl rfl ?_
        refine g_getr (q := 106) dX6_firm_103 rfl fk_X6_274 rfl rfl ?_
        refine g_iload_n (i := 1) (q := 107) dX6_firm_106 rfl rfl rfl ?_
        refine g_ildv (q := 108) (z := S.2.1 12 f) dX6_firm_107 rfl ⟨by decide, rfl, rfl⟩ (by omega) (by omega) rfl ?_
        exact g_ret dX6_firm_108 rfl (by decide) (by unfold o_firm; (repeat (first | rw [if_pos (by omega)] | rw [if_neg (by omega)])); exact ⟨rfl, rfl⟩)
      · exact g_exS (as := [zI f]) dX6_firm_1 ck_X6_150 rfl rfl (Nat.le_of_ble_eq_true rfl) (by decide) (by decide) rfl (s_X6_requireFirm_ex c1) (by unfold o_firm; (repeat (first | rw [if_pos (by omega)] | rw [if_neg (by omega)])); exact ⟨rfl, rfl⟩)
    · skip
      refine g_iload_n (i := 1) (q := 1) dX6_firm_0 rfl rfl rfl ?_
      by_cases c1 : 0 ≤ f ∧ f < 6
      · skip
        refine g_fnS (as := [zI f]) (q := 4) (u' := 1) dX6_firm_1 rfl ck_X6_150 rfl rfl (Nat.le_of_ble_eq_true rfl) (by decide) rfl (by decide) (s_X6_requireFirm_ok c1) rfl ?_
        have hkf := hk f (by omega) (by omega)
        refine g_iload_n (i := 2) (q := 5) dX6_firm_4 rfl rfl rfl ?_
        refine g_bipush (q := 7) dX6_firm_5 rfl ⟨by decide, by decide⟩ (by decide) ?_
        refine g_fnS (as := [zI 6, zI 7]) (q := 10) (u' := 2) dX6_firm_7 rfl ck_X6_246 rfl rfl (Nat.le_of_ble_eq_true rfl) (by decide) rfl (by decide) (s_X6_requireWhat_ok (by omega)) rfl ?_
        refine g_iload_n (i := 2) (q := 11) dX6_firm_10 rfl rfl rfl ?_
        refine g_swOut (q := 0) (t := 109) dX6_firm_11 (by decide) (by decide) ?_
        refine g_aload_n (i := 0) (q := 110) dX6_firm_109 rfl rfl rfl ?_
        refine g_getr (q := 113) dX6_firm_110 rfl fk_X6_37 rfl rfl ?_
        refine g_iload_n (i := 1) (q := 114) dX6_firm_113 rfl rfl rfl ?_
        refine g_fnV (as := [zI f]) (q := 117) (u' := 2) dX6_firm_114 rfl ck_X6_237 rfl rfl rfl (Nat.le_of_ble_eq_true rfl) (by decide) rfl (by decide) (s_X0_countUnknown (by omega) (by omega) (by omega) (by omega) (by omega)) rfl ?_
        exact g_ret dX6_firm_117 rfl (by decide) (by unfold o_firm; (repeat (first | rw [if_pos (by omega)] | rw [if_neg (by omega)])); exact ⟨rfl, rfl⟩)
      · exact g_exS (as := [zI f]) dX6_firm_1 ck_X6_150 rfl rfl (Nat.le_of_ble_eq_true rfl) (by decide) (by decide) rfl (s_X6_requireFirm_ex c1) (by unfold o_firm; (repeat (first | rw [if_pos (by omega)] | rw [if_neg (by omega)])); exact ⟨rfl, rfl⟩)
  · skip
    refine g_iload_n (i := 1) (q := 1) dX6_firm_0 rfl rfl rfl ?_
    by_cases c1 : 0 ≤ f ∧ f < 6
    · skip
      refine g_fnS (as := [zI f]) (q := 4) (u' := 1) dX6_firm_1 rfl ck_X6_150 rfl rfl (Nat.le_of_ble_eq_true rfl) (by decide) rfl (by decide) (s_X6_requireFirm_ok c1) rfl ?_
      refine g_iload_n (i := 2) (q := 5) dX6_firm_4 rfl rfl rfl ?_
      refine g_bipush (q := 7) dX6_firm_5 rfl ⟨by decide, by decide⟩ (by decide) ?_
      exact g_exS (as := [zI w, zI 7]) dX6_firm_7 ck_X6_246 rfl rfl (Nat.le_of_ble_eq_true rfl) (by decide) (by decide) rfl (s_X6_requireWhat_ex hw) (by unfold o_firm; (repeat (first | rw [if_pos (by omega)] | rw [if_neg (by omega)])); exact ⟨rfl, rfl⟩)
    · exact g_exS (as := [zI f]) dX6_firm_1 ck_X6_150 rfl rfl (Nat.le_of_ble_eq_true rfl) (by decide) (by decide) rfl (s_X6_requireFirm_ex c1) (by unfold o_firm; (repeat (first | rw [if_pos (by omega)] | rw [if_neg (by omega)])); exact ⟨rfl, rfl⟩)
def o_known (S : zS) (f n : Int) : zO := if ¬ ((0 ≤ f ∧ f < 6) ∧ (0 ≤ n ∧ n < 200)) then (.error xI, S) else (zI? (x_pbt S f n), S)
theorem c_known {S : zS} {f n : Int} : z_Out mX6_known [zR 0, zI f, zI n] S (o_known S f n) := by
  refine z_enter (by decide +kernel) rfl (z_n1 trivial (z_n1 trivial (z_n1 trivial z_n0))) (Nat.le_of_ble_eq_true rfl) ?_
  refine g_iload_n (i := 1) (q := 1) dX6_known_0 rfl rfl rfl ?_
  by_cases c1 : 0 ≤ f ∧ f < 6
  · skip
    refine g_fnS (as := [zI f]) (q := 4) (u' := 1) dX6_known_1 rfl ck_X6_150 rfl rfl (Nat.le_of_ble_eq_true rfl) (by decide) rfl (by decide) (s_X6_requireFirm_ok c1) rfl ?_
    refine g_iload_n (i := 2) (q := 5) dX6_known_4 rfl rfl rfl ?_
    by_cases c5 : 0 ≤ n ∧ n < 200
    · skip
      refine g_fnS (as := [zI n]) (q := 8) (u' := 2) dX6_known_5 rfl ck_X6_99 rfl rfl (Nat.le_of_ble_eq_true rfl) (by decide) rfl (by decide) (s_X6_requireNumber_ok c5) rfl ?_
      refine g_aload_n (i := 0) (q := 9) dX6_known_8 rfl rfl rfl ?_
      refine g_iload_n (i := 1) (q := 10) dX6_known_9 rfl rfl rfl ?_
      refine g_iload_n (i := 2) (q := 11) dX6_known_10 rfl rfl rfl ?_
      refine g_fnV (as := [zI f, zI n]) (q := 14) (u' := 2) dX6_known_11 rfl ck_X6_277 rfl rfl rfl (Nat.le_of_ble_eq_true rfl) (by decide) rfl (by decide) (s_X6_placeByTable (by omega) (by omega)) rfl ?_
      exact g_ret dX6_known_14 rfl (by decide) (by unfold o_known; (repeat (first | rw [if_pos (by omega)] | rw [if_neg (by omega)])); exact ⟨rfl, rfl⟩)
    · exact g_exS (as := [zI n]) dX6_known_5 ck_X6_99 rfl rfl (Nat.le_of_ble_eq_true rfl) (by decide) (by decide) rfl (s_X6_requireNumber_ex c5) (by unfold o_known; (repeat (first | rw [if_pos (by omega)] | rw [if_neg (by omega)])); exact ⟨rfl, rfl⟩)
  · exact g_exS (as := [zI f]) dX6_known_1 ck_X6_150 rfl rfl (Nat.le_of_ble_eq_true rfl) (by decide) (by decide) rfl (s_X6_requireFirm_ex c1) (by unfold o_known; (repeat (first | rw [if_pos (by omega)] | rw [if_neg (by omega)])); exact ⟨rfl, rfl⟩)
def x_au (S : zS) (f : Int) (i : Nat) : Nat := z_ct (fun k => decide (¬ S.2.1 13 k = -1 ∧ ¬ x_pbt S f k = S.2.1 13 k)) i
theorem x_au_s (S : zS) (f : Int) (i : Nat) : x_au S f (i + 1) = x_au S f i + if ¬ S.2.1 13 i = -1 ∧ ¬ x_pbt S f i = S.2.1 13 i then 1 else 0 := by
  unfold x_au
  rw [z_ct]
  simp
theorem x_au_le (S : zS) (f : Int) (i : Nat) : x_au S f i ≤ i := z_ct_le _ _
theorem l_X6_audit {Q : zQ} {S : zS} {f : Int} (hf : 0 ≤ f ∧ f < 6) (hQ : Q (.ok (some (zI (x_au S f 200)))) S) : ∀ (k i : Nat) (w : Int), i + k = 200 → w = x_au S f i → z_G mX6_audit (z_F mX6_audit Q) 1 8 [some (zR 0), some (zI f), some (zI w), some (zI (i : Int))] [] S := by
  intro k
  induction k with
  | zero =>
    intro i w hi hw
    have e : i = 200 := by omega
    subst e
    subst hw
    refine g_iload_n (i := 3) (q := 9) dX6_audit_8 rfl rfl rfl ?_
    refine g_sipush (q := 12) dX6_audit_9 rfl ⟨by decide, by decide⟩ (by decide) ?_
    refine g_icmp_ge (t := 53) (q := 15) dX6_audit_12 (by decide) rfl (fun h12 => ?_) (fun h12 => (False.elim (by omega)))
    refine g_iload_n (i := 2) (q := 54) dX6_audit_53 rfl rfl rfl ?_
    exact g_ret dX6_audit_54 rfl (by decide) hQ
  | succ k ih =>
    intro i w hi hw
    have hle := x_au_le S f i
    refine g_iload_n (i := 3) (q := 9) dX6_audit_8 rfl rfl rfl ?_
    refine g_sipush (q := 12) dX6_audit_9 rfl ⟨by decide, by decide⟩ (by decide) ?_
    refine g_icmp_ge (t := 53) (q := 15) dX6_audit_12 (by decide) rfl (fun h12 => (False.elim (by omega))) (fun h12 => ?_)
    refine g_aload_n (i := 0) (q := 16) dX6_audit_15 rfl rfl rfl ?_
    refine g_getr (q := 19) dX6_audit_16 rfl fk_X6_23 rfl rfl ?_
    refine g_iload_n (i := 3) (q := 20) dX6_audit_19 rfl rfl rfl ?_
    by_cases c20 : ¬ (S).2.1 13 (i : Int) = -1
    · refine g_fnV (as := [zI (i : Int)]) (q := 23) (u' := 1) dX6_audit_20 rfl ck_X6_109 rfl rfl rfl (Nat.le_of_ble_eq_true rfl) (by decide) rfl (by decide) (s_X1_isInUse_t (by omega) c20) rfl ?_
      refine g_if_eq (t := 47) (q := 26) dX6_audit_23 (by decide) rfl (fun h23 => (False.elim (by omega))) (fun h23 => ?_)
      refine g_aload_n (i := 0) (q := 27) dX6_audit_26 rfl rfl rfl ?_
      refine g_iload_n (i := 1) (q := 28) dX6_audit_27 rfl rfl rfl ?_
      refine g_iload_n (i := 3) (q := 29) dX6_audit_28 rfl rfl rfl ?_
      refine g_fnV (as := [zI f, zI (i : Int)]) (q := 32) (u' := 1) dX6_audit_29 rfl ck_X6_277 rfl rfl rfl (Nat.le_of_ble_eq_true rfl) (by decide) rfl (by decide) (s_X6_placeByTable (by omega) (by omega)) rfl ?_
      refine g_aload_n (i := 0) (q := 33) dX6_audit_32 rfl rfl rfl ?_
      refine g_getr (q := 36) dX6_audit_33 rfl fk_X6_23 rfl rfl ?_
      refine g_getr (q := 39) dX6_audit_36 rfl fk_X6_129 rfl rfl ?_
      refine g_iload_n (i := 3) (q := 40) dX6_audit_39 rfl rfl rfl ?_
      refine g_ildv (q := 41) (z := S.2.1 13 (i : Int)) dX6_audit_40 rfl ⟨by decide, rfl, rfl⟩ (by omega) (by omega) rfl ?_
      refine g_icmp_eq (t := 47) (q := 44) dX6_audit_41 (by decide) rfl (fun h41 => ?_) (fun h41 => ?_)
      · refine g_iinc (q := 50) (i := 3) (n := 1) dX6_audit_47 rfl rfl (by constructor <;> omega) ?_
        refine g_goto (q := 0) (t := 8) dX6_audit_50 (by decide) ?_
        exact ih (i + 1) _ (by omega) (by rw [x_au_s]; split <;> omega)
      · refine g_iinc (q := 47) (i := 2) (n := 1) dX6_audit_44 rfl rfl (by constructor <;> omega) ?_
        refine g_iinc (q := 50) (i := 3) (n := 1) dX6_audit_47 rfl rfl (by constructor <;> omega) ?_
        refine g_goto (q := 0) (t := 8) dX6_audit_50 (by decide) ?_
        exact ih (i + 1) _ (by omega) (by rw [x_au_s]; split <;> omega)
    · refine g_fnV (as := [zI (i : Int)]) (q := 23) (u' := 1) dX6_audit_20 rfl ck_X6_109 rfl rfl rfl (Nat.le_of_ble_eq_true rfl) (by decide) rfl (by decide) (s_X1_isInUse_f (by omega) (Decidable.not_not.mp c20)) rfl ?_
      refine g_if_eq (t := 47) (q := 26) dX6_audit_23 (by decide) rfl (fun h23 => ?_) (fun h23 => (False.elim (by omega)))
      refine g_iinc (q := 50) (i := 3) (n := 1) dX6_audit_47 rfl rfl (by constructor <;> omega) ?_
      refine g_goto (q := 0) (t := 8) dX6_audit_50 (by decide) ?_
      exact ih (i + 1) _ (by omega) (by rw [x_au_s]; split <;> omega)
def o_audit (S : zS) (f : Int) : zO := if ¬ (0 ≤ f ∧ f < 6) then (.error xI, S) else (zI? (x_au S f 200), S)
theorem c_audit {S : zS} {f : Int} : z_Out mX6_audit [zR 0, zI f] S (o_audit S f) := by
  refine z_enter (by decide +kernel) rfl (z_n1 trivial (z_n1 trivial z_n0)) (Nat.le_of_ble_eq_true rfl) ?_
  refine g_iload_n (i := 1) (q := 1) dX6_audit_0 rfl rfl rfl ?_
  by_cases c1 : 0 ≤ f ∧ f < 6
  · skip
    refine g_fnS (as := [zI f]) (q := 4) (u' := 1) dX6_audit_1 rfl ck_X6_150 rfl rfl (Nat.le_of_ble_eq_true rfl) (by decide) rfl (by decide) (s_X6_requireFirm_ok c1) rfl ?_
    refine g_iconst (q := 5) dX6_audit_4 rfl ⟨by decide, by decide⟩ ?_
    refine g_istore_n (i := 2) (q := 6) dX6_audit_5 rfl rfl (by decide) ?_
    refine g_iconst (q := 7) dX6_audit_6 rfl ⟨by decide, by decide⟩ ?_
    refine g_istore_n (i := 3) (q := 8) dX6_audit_7 rfl rfl (by decide) ?_
    exact l_X6_audit (by omega) (by unfold o_audit; rw [if_neg (by omega)]; exact ⟨rfl, rfl⟩) 200 0 0 (by omega) rfl
  · exact g_exS (as := [zI f]) dX6_audit_1 ck_X6_150 rfl rfl (Nat.le_of_ble_eq_true rfl) (by decide) (by decide) rfl (s_X6_requireFirm_ex c1) (by unfold o_audit; (repeat (first | rw [if_pos (by omega)] | rw [if_neg (by omega)])); exact ⟨rfl, rfl⟩)
/-- what a call of the tables rests on -/
def xR2 (S : zS) : Prop := (∀ b : Int, 0 ≤ b → b < 20 → -1 ≤ S.2.1 8 b ∧ S.2.1 8 b < 6) ∧ (∀ f n : Int, 0 ≤ f → f < 6 → 0 ≤ n → n < 200 → 0 ≤ S.2.1 (30 + f.toNat) n ∧ S.2.1 (30 + f.toNat) n ≤ 6) ∧ (∀ f : Int, 0 ≤ f → f < 6 → S.2.1 9 f = 0 ∨ S.2.1 9 f = 1)
theorem x_ft_len {n w h : Int} : ∀ (k i : Nat) (S : zS), i + k = 7 → xT S n h i → ∃ j : Nat, xT (x_ft S n w h i k).1 n h j ∧ (∀ q, q ≠ 4 → (x_ft S n w h i k).1.1 q = S.1 q) ∧ (∀ q x, q ≠ 39 → (x_ft S n w h i k).1.2.1 q x = S.2.1 q x) ∧ (x_ft S n w h i k).1.2.2 = S.2.2
  | 0, i, S, _, T => ⟨i, T, fun _ _ => rfl, fun _ _ _ => rfl, rfl⟩
  | k + 1, i, S, hi, T => by
    have hnx := x_nx_rng (w := w) T
    have hha := xT_ha T (by omega) hnx
    have g1 : ∀ x, (∀ q, q ≠ 4 → (x_ha S x).1 q = S.1 q) ∧ (∀ q j, q ≠ 39 → (x_ha S x).2.1 q j = S.2.1 q j) := fun x => ⟨fun q hq => by unfold x_ha; rw [zv_sS, if_neg hq]; rfl, fun q j hq => by unfold x_ha; rw [za_sS, za_ne hq]⟩
    rw [x_ft]
    split
    · exact ⟨i, T, fun _ _ => rfl, fun _ _ _ => rfl, rfl⟩
    · split
      · exact ⟨i, T, fun _ _ => rfl, fun _ _ _ => rfl, rfl⟩
      · split
        · exact ⟨i, T, fun _ _ => rfl, fun _ _ _ => rfl, rfl⟩
        · split
          · exact ⟨i + 1, hha, (g1 _).1, (g1 _).2, rfl⟩
          · obtain ⟨j, h1, h2, h3, h4⟩ := x_ft_len (n := n) (w := w) (h := h) k (i + 1) _ (by omega) hha
            exact ⟨j, h1, fun q hq => by rw [h2 q hq, (g1 _).1 q hq], fun q x hq => by rw [h3 q x hq, (g1 _).2 q x hq], h4⟩
theorem x_tc_fr {S : zS} {f n w : Int} (hf : 0 ≤ f ∧ f < 6) (hn : 0 ≤ n ∧ n < 200) (hR : xR2 S) : (∀ q, q ≠ 4 → (x_tc S f n w).1.1 q = S.1 q) ∧ (∀ q x, q ≠ 39 → (x_tc S f n w).1.2.1 q x = S.2.1 q x) ∧ (x_tc S f n w).1.2.2 = S.2.2 ∧ (1 ≤ (x_tc S f n w).1.1 4 ∧ (x_tc S f n w).1.1 4 ≤ 7) ∧ (∀ j : Int, 0 ≤ j → j < (x_tc S f n w).1.1 4 → 0 ≤ (x_tc S f n w).1.2.1 39 j ∧ (x_tc S f n w).1.2.1 39 j < 6) := by
  have hh := hR.1 (n / 10) (by omega) (by omega)
  have g1 : ∀ x, (∀ q, q ≠ 4 → (x_hb S x).1 q = S.1 q) ∧ (∀ q j, q ≠ 39 → (x_hb S x).2.1 q j = S.2.1 q j) := fun x => ⟨fun q hq => by unfold x_hb; rw [zv_sS, if_neg hq]; rfl, fun q j hq => by unfold x_hb; rw [za_sS, za_ne hq]⟩
  have g0 : ∀ j : Int, 0 ≤ j → j < (x_hb S f).1 4 → 0 ≤ (x_hb S f).2.1 39 j ∧ (x_hb S f).2.1 39 j < 6 := fun j a b => by
    have b1 : j < 1 := b
    have e : j = 0 := by omega
    subst e
    show 0 ≤ (z_sA S 39 0 f).2.1 39 0 ∧ (z_sA S 39 0 f).2.1 39 0 < 6
    rw [za_eq]
    exact hf
  unfold x_tc
  split
  · exact ⟨(g1 f).1, (g1 f).2, rfl, by show 1 ≤ (1 : Int) ∧ (1 : Int) ≤ 7; omega, g0⟩
  · split
    · split
      · exact ⟨(g1 f).1, (g1 f).2, rfl, by show 1 ≤ (1 : Int) ∧ (1 : Int) ≤ 7; omega, g0⟩
      · refine ⟨fun q hq => ?_, fun q x hq => ?_, rfl, by show 1 ≤ (1 + 1 : Int) ∧ (1 + 1 : Int) ≤ 7; omega, fun j a b => ?_⟩
        · unfold x_ha
          rw [zv_sS, if_neg hq]
          exact (g1 f).1 q hq
        · unfold x_ha
          rw [za_sS, za_ne hq]
          exact (g1 f).2 q x hq
        · have b1 : j < 1 + 1 := b
          unfold x_ha
          rw [za_sS, za_sA]
          split
          · omega
          · next hne =>
            have e : (x_hb S f).1 4 = 1 := rfl
            rw [e] at hne
            exact g0 j a (by
              rw [e]
              by_cases q : j = 1
              · exact absurd ⟨rfl, q⟩ hne
              · omega)
    · obtain ⟨j, h1, h2, h3, h4⟩ := x_ft_len (w := w) 6 1 _ (by omega) (xT_hb hf hn (by omega) (fun g x y => hR.2.1 g n x y hn.1 hn.2))
      obtain ⟨t1, t2, t3, t4, t5, t6, t7⟩ := h1
      exact ⟨fun q hq => by rw [h2 q hq, (g1 f).1 q hq], fun q x hq => by rw [h3 q x hq, (g1 f).2 q x hq], h4, by omega, fun j a b => t7 j a (by omega)⟩
def o_hop (S : zS) (f n w p : Int) : zO := if ¬ ((0 ≤ f ∧ f < 6) ∧ (0 ≤ n ∧ n < 200) ∧ 0 ≤ p) then (.error xI, S) else if ¬ (0 ≤ w ∧ w ≤ 2) then (.error xA, S) else (zI? (x_hop (x_tc S f n w).1 p), (x_tc S f n w).1)
theorem c_hop {S : zS} {f n w p : Int} (hR : xR2 S) : z_Out mX6_hop [zR 0, zI f, zI n, zI w, zI p] S (o_hop S f n w p) := by
  refine z_enter (by decide +kernel) rfl (z_n1 trivial (z_n1 trivial (z_n1 trivial (z_n1 trivial (z_n1 trivial z_n0))))) (Nat.le_of_ble_eq_true rfl) ?_
  refine g_iload_n (i := 1) (q := 1) dX6_hop_0 rfl rfl rfl ?_
  by_cases c1 : 0 ≤ f ∧ f < 6
  · skip
    refine g_fnS (as := [zI f]) (q := 4) (u' := 1) dX6_hop_1 rfl ck_X6_150 rfl rfl (Nat.le_of_ble_eq_true rfl) (by decide) rfl (by decide) (s_X6_requireFirm_ok c1) rfl ?_
    refine g_iload_n (i := 2) (q := 5) dX6_hop_4 rfl rfl rfl ?_
    by_cases c5 : 0 ≤ n ∧ n < 200
    · skip
      refine g_fnS (as := [zI n]) (q := 8) (u' := 2) dX6_hop_5 rfl ck_X6_99 rfl rfl (Nat.le_of_ble_eq_true rfl) (by decide) rfl (by decide) (s_X6_requireNumber_ok c5) rfl ?_
      refine g_iload (q := 10) dX6_hop_8 rfl rfl ?_
      refine g_if_ge (t := 24) (q := 13) dX6_hop_10 (by decide) rfl (fun h10 => ?_) (fun h10 => ?_)
      · refine g_iload_n (i := 3) (q := 25) dX6_hop_24 rfl rfl rfl ?_
        by_cases c25 : 0 ≤ w ∧ w ≤ 2
        · skip
          refine g_fnS (as := [zI w]) (q := 28) (u' := 3) dX6_hop_25 rfl ck_X6_283 rfl rfl (Nat.le_of_ble_eq_true rfl) (by decide) rfl (by decide) (s_X6_requireWay_ok c25) rfl ?_
          refine g_aload_n (i := 0) (q := 29) dX6_hop_28 rfl rfl rfl ?_
          refine g_iload_n (i := 1) (q := 30) dX6_hop_29 rfl rfl rfl ?_
          refine g_iload_n (i := 2) (q := 31) dX6_hop_30 rfl rfl rfl ?_
          refine g_iload_n (i := 3) (q := 32) dX6_hop_31 rfl rfl rfl ?_
          refine g_fnV (as := [zI f, zI n, zI w]) (q := 35) (u' := 3) dX6_hop_32 rfl ck_X6_286 rfl rfl rfl (Nat.le_of_ble_eq_true rfl) (by decide) rfl (by decide) (s_X6_traceCall (by omega) (by omega) (hR.1 _ (by omega) (by omega)) (fun g x y => hR.2.1 g _ x y (by omega) (by omega)) hR.2.2) rfl ?_
          have hfr := x_tc_fr (w := w) (f := f) (n := n) (by omega) (by omega) hR
          refine g_pop (q := 36) dX6_hop_35 rfl trivial ?_
          refine g_aload_n (i := 0) (q := 37) dX6_hop_36 rfl rfl rfl ?_
          refine g_getr (q := 40) dX6_hop_37 rfl fk_X6_51 rfl rfl ?_
          refine g_iload (q := 42) dX6_hop_40 rfl rfl ?_
          refine g_fnV (as := [zI p]) (q := 45) (u' := 3) dX6_hop_42 rfl ck_X6_289 rfl rfl rfl (Nat.le_of_ble_eq_true rfl) (by decide) rfl (by decide) (s_X5_hopAt (by omega)) rfl ?_
          exact g_ret dX6_hop_45 rfl (by decide) (by unfold o_hop; (repeat (first | rw [if_pos (by omega)] | rw [if_neg (by omega)])); exact ⟨rfl, rfl⟩)
        · exact g_exS (as := [zI w]) dX6_hop_25 ck_X6_283 rfl rfl (Nat.le_of_ble_eq_true rfl) (by decide) (by decide) rfl (s_X6_requireWay_ex c25) (by unfold o_hop; (repeat (first | rw [if_pos (by omega)] | rw [if_neg (by omega)])); exact ⟨rfl, rfl⟩)
      · exact g_throwW (text := "no such place") rfl rfl z_tk_I (by decide +kernel) dX6_hop_13 dX6_hop_16 dX6_hop_17 dX6_hop_20 dX6_hop_23 (by decide) (by decide) (by decide) (by unfold o_hop; (repeat (first | rw [if_pos (by omega)] | rw [if_neg (by omega)])); exact ⟨rfl, rfl⟩)
    · exact g_exS (as := [zI n]) dX6_hop_5 ck_X6_99 rfl rfl (Nat.le_of_ble_eq_true rfl) (by decide) (by decide) rfl (s_X6_requireNumber_ex c5) (by unfold o_hop; (repeat (first | rw [if_pos (by omega)] | rw [if_neg (by omega)])); exact ⟨rfl, rfl⟩)
  · exact g_exS (as := [zI f]) dX6_hop_1 ck_X6_150 rfl rfl (Nat.le_of_ble_eq_true rfl) (by decide) (by decide) rfl (s_X6_requireFirm_ex c1) (by unfold o_hop; (repeat (first | rw [if_pos (by omega)] | rw [if_neg (by omega)])); exact ⟨rfl, rfl⟩)
def o_why (S : zS) (f n w : Int) : zO := if ¬ ((0 ≤ f ∧ f < 6) ∧ (0 ≤ n ∧ n < 200)) then (.error xI, S) else if ¬ (0 ≤ w ∧ w ≤ 2) then (.error xA, S) else (zI? (x_tc S f n w).2, (x_tc S f n w).1)
theorem c_why {S : zS} {f n w : Int} (hR : xR2 S) : z_Out mX6_why [zR 0, zI f, zI n, zI w] S (o_why S f n w) := by
  refine z_enter (by decide +kernel) rfl (z_n1 trivial (z_n1 trivial (z_n1 trivial (z_n1 trivial z_n0)))) (Nat.le_of_ble_eq_true rfl) ?_
  refine g_iload_n (i := 1) (q := 1) dX6_why_0 rfl rfl rfl ?_
  by_cases c1 : 0 ≤ f ∧ f < 6
  · skip
    refine g_fnS (as := [zI f]) (q := 4) (u' := 1) dX6_why_1 rfl ck_X6_150 rfl rfl (Nat.le_of_ble_eq_true rfl) (by decide) rfl (by decide) (s_X6_requireFirm_ok c1) rfl ?_
    refine g_iload_n (i := 2) (q := 5) dX6_why_4 rfl rfl rfl ?_
    by_cases c5 : 0 ≤ n ∧ n < 200
    · skip
      refine g_fnS (as := [zI n]) (q := 8) (u' := 2) dX6_why_5 rfl ck_X6_99 rfl rfl (Nat.le_of_ble_eq_true rfl) (by decide) rfl (by decide) (s_X6_requireNumber_ok c5) rfl ?_
      refine g_iload_n (i := 3) (q := 9) dX6_why_8 rfl rfl rfl ?_
      by_cases c9 : 0 ≤ w ∧ w ≤ 2
      · skip
        refine g_fnS (as := [zI w]) (q := 12) (u' := 3) dX6_why_9 rfl ck_X6_283 rfl rfl (Nat.le_of_ble_eq_true rfl) (by decide) rfl (by decide) (s_X6_requireWay_ok c9) rfl ?_
        refine g_aload_n (i := 0) (q := 13) dX6_why_12 rfl rfl rfl ?_
        refine g_iload_n (i := 1) (q := 14) dX6_why_13 rfl rfl rfl ?_
        refine g_iload_n (i := 2) (q := 15) dX6_why_14 rfl rfl rfl ?_
        refine g_iload_n (i := 3) (q := 16) dX6_why_15 rfl rfl rfl ?_
        refine g_fnV (as := [zI f, zI n, zI w]) (q := 19) (u' := 3) dX6_why_16 rfl ck_X6_286 rfl rfl rfl (Nat.le_of_ble_eq_true rfl) (by decide) rfl (by decide) (s_X6_traceCall (by omega) (by omega) (hR.1 _ (by omega) (by omega)) (fun g x y => hR.2.1 g _ x y (by omega) (by omega)) hR.2.2) rfl ?_
        exact g_ret dX6_why_19 rfl (by decide) (by unfold o_why; (repeat (first | rw [if_pos (by omega)] | rw [if_neg (by omega)])); exact ⟨rfl, rfl⟩)
      · exact g_exS (as := [zI w]) dX6_why_9 ck_X6_283 rfl rfl (Nat.le_of_ble_eq_true rfl) (by decide) (by decide) rfl (s_X6_requireWay_ex c9) (by unfold o_why; (repeat (first | rw [if_pos (by omega)] | rw [if_neg (by omega)])); exact ⟨rfl, rfl⟩)
    · exact g_exS (as := [zI n]) dX6_why_5 ck_X6_99 rfl rfl (Nat.le_of_ble_eq_true rfl) (by decide) (by decide) rfl (s_X6_requireNumber_ex c5) (by unfold o_why; (repeat (first | rw [if_pos (by omega)] | rw [if_neg (by omega)])); exact ⟨rfl, rfl⟩)
  · exact g_exS (as := [zI f]) dX6_why_1 ck_X6_150 rfl rfl (Nat.le_of_ble_eq_true rfl) (by decide) (by decide) rfl (s_X6_requireFirm_ex c1) (by unfold o_why; (repeat (first | rw [if_pos (by omega)] | rw [if_neg (by omega)])); exact ⟨rfl, rfl⟩)
def o_dial (S : zS) (a n w : Int) : zO := if ¬ ((0 ≤ a ∧ a < 200) ∧ (0 ≤ n ∧ n < 200)) then (.error xI, S) else if ¬ (0 ≤ w ∧ w ≤ 2) then (.error xA, S) else if S.2.1 13 a = -1 then (.error xS, S) else (zI? (x_tc S (S.2.1 13 a) n w).2, if (x_tc S (S.2.1 13 a) n w).2 = 0 then x_pf (x_tc S (S.2.1 13 a) n w).1 else (x_tc S (S.2.1 13 a) n w).1)
theorem c_dial {S : zS} {a n w : Int} (hR : xR2 S) (hN : ∀ n : Int, 0 ≤ n → n < 200 → -1 ≤ S.2.1 13 n ∧ S.2.1 13 n < 6) : z_Out mX6_dial [zR 0, zI a, zI n, zI w] S (o_dial S a n w) := by
  refine z_enter (by decide +kernel) rfl (z_n1 trivial (z_n1 trivial (z_n1 trivial (z_n1 trivial z_n0)))) (Nat.le_of_ble_eq_true rfl) ?_
  refine g_iload_n (i := 1) (q := 1) dX6_dial_0 rfl rfl rfl ?_
  by_cases c1 : 0 ≤ a ∧ a < 200
  · skip
    refine g_fnS (as := [zI a]) (q := 4) (u' := 1) dX6_dial_1 rfl ck_X6_99 rfl rfl (Nat.le_of_ble_eq_true rfl) (by decide) rfl (by decide) (s_X6_requireNumber_ok c1) rfl ?_
    refine g_iload_n (i := 2) (q := 5) dX6_dial_4 rfl rfl rfl ?_
    by_cases c5 : 0 ≤ n ∧ n < 200
    · skip
      refine g_fnS (as := [zI n]) (q := 8) (u' := 2) dX6_dial_5 rfl ck_X6_99 rfl rfl (Nat.le_of_ble_eq_true rfl) (by decide) rfl (by decide) (s_X6_requireNumber_ok c5) rfl ?_
      refine g_iload_n (i := 3) (q := 9) dX6_dial_8 rfl rfl rfl ?_
      by_cases c9 : 0 ≤ w ∧ w ≤ 2
      · skip
        refine g_fnS (as := [zI w]) (q := 12) (u' := 3) dX6_dial_9 rfl ck_X6_283 rfl rfl (Nat.le_of_ble_eq_true rfl) (by decide) rfl (by decide) (s_X6_requireWay_ok c9) rfl ?_
        refine g_aload_n (i := 0) (q := 13) dX6_dial_12 rfl rfl rfl ?_
        refine g_iload_n (i := 1) (q := 14) dX6_dial_13 rfl rfl rfl ?_
        by_cases c14 : ¬ (S).2.1 13 a = -1
        · skip
          refine g_fnV (as := [zI a]) (q := 17) (u' := 4) dX6_dial_14 rfl ck_X6_126 rfl rfl rfl (Nat.le_of_ble_eq_true rfl) (by decide) rfl (by decide) (s_X6_requireInUse_ok (by omega) c14) rfl ?_
          have hNa := hN a (by omega) (by omega)
          refine g_aload_n (i := 0) (q := 18) dX6_dial_17 rfl rfl rfl ?_
          refine g_aload_n (i := 0) (q := 19) dX6_dial_18 rfl rfl rfl ?_
          refine g_getr (q := 22) dX6_dial_19 rfl fk_X6_23 rfl rfl ?_
          refine g_getr (q := 25) dX6_dial_22 rfl fk_X6_129 rfl rfl ?_
          refine g_iload_n (i := 1) (q := 26) dX6_dial_25 rfl rfl rfl ?_
          refine g_ildv (q := 27) (z := S.2.1 13 a) dX6_dial_26 rfl ⟨by decide, rfl, rfl⟩ (by omega) (by omega) rfl ?_
          refine g_iload_n (i := 2) (q := 28) dX6_dial_27 rfl rfl rfl ?_
          refine g_iload_n (i := 3) (q := 29) dX6_dial_28 rfl rfl rfl ?_
          refine g_fnV (as := [zI (S.2.1 13 a), zI n, zI w]) (q := 32) (u' := 4) dX6_dial_29 rfl ck_X6_286 rfl rfl rfl (Nat.le_of_ble_eq_true rfl) (by decide) rfl (by decide) (s_X6_traceCall (by omega) (by omega) (hR.1 _ (by omega) (by omega)) (fun g x y => hR.2.1 g _ x y (by omega) (by omega)) hR.2.2) rfl ?_
          have hfr := x_tc_fr (w := w) (f := S.2.1 13 a) (n := n) (by omega) (by omega) hR
          refine g_istore (q := 34) dX6_dial_32 rfl (by decide) ?_
          refine g_iload (q := 36) dX6_dial_34 rfl rfl ?_
          refine g_if_ne (t := 43) (q := 39) dX6_dial_36 (by decide) rfl (fun h36 => ?_) (fun h36 => ?_)
          · refine g_iload (q := 45) dX6_dial_43 rfl rfl ?_
            exact g_ret dX6_dial_45 rfl (by decide) (by unfold o_dial; (repeat (first | rw [if_pos (by omega)] | rw [if_neg (by omega)])); exact ⟨rfl, rfl⟩)
          · refine g_aload_n (i := 0) (q := 40) dX6_dial_39 rfl rfl rfl ?_
            refine g_fnV (as := []) (q := 43) (u' := 4) dX6_dial_40 rfl ck_X6_292 rfl rfl rfl (Nat.le_of_ble_eq_true rfl) (by decide) rfl (by decide) (s_X6_payForCall (len := ((x_tc S (S.2.1 13 a) n w).1.1 4).toNat) (by omega) (by omega) (by omega) (fun j x y => hfr.2.2.2.2 j x (by omega))) rfl ?_
            refine g_iload (q := 45) dX6_dial_43 rfl rfl ?_
            exact g_ret dX6_dial_45 rfl (by decide) (by unfold o_dial; (repeat (first | rw [if_pos (by omega)] | rw [if_neg (by omega)])); exact ⟨rfl, rfl⟩)
        · exact g_exV (as := [zI a]) dX6_dial_14 ck_X6_126 rfl rfl rfl (Nat.le_of_ble_eq_true rfl) (by decide) (by decide) rfl (s_X6_requireInUse_ex (by omega) c14) (by unfold o_dial; (repeat (first | rw [if_pos (by omega)] | rw [if_neg (by omega)])); exact ⟨rfl, rfl⟩)
      · exact g_exS (as := [zI w]) dX6_dial_9 ck_X6_283 rfl rfl (Nat.le_of_ble_eq_true rfl) (by decide) (by decide) rfl (s_X6_requireWay_ex c9) (by unfold o_dial; (repeat (first | rw [if_pos (by omega)] | rw [if_neg (by omega)])); exact ⟨rfl, rfl⟩)
    · exact g_exS (as := [zI n]) dX6_dial_5 ck_X6_99 rfl rfl (Nat.le_of_ble_eq_true rfl) (by decide) (by decide) rfl (s_X6_requireNumber_ex c5) (by unfold o_dial; (repeat (first | rw [if_pos (by omega)] | rw [if_neg (by omega)])); exact ⟨rfl, rfl⟩)
  · exact g_exS (as := [zI a]) dX6_dial_1 ck_X6_99 rfl rfl (Nat.le_of_ble_eq_true rfl) (by decide) (by decide) rfl (s_X6_requireNumber_ex c1) (by unfold o_dial; (repeat (first | rw [if_pos (by omega)] | rw [if_neg (by omega)])); exact ⟨rfl, rfl⟩)
theorem c_minute {S : zS} : z_Out mX6_minute [zR 0] S (zI? (S.1 0), S) := by
  refine z_enter (by decide +kernel) rfl (z_n1 trivial z_n0) (Nat.le_of_ble_eq_true rfl) ?_
  refine g_aload_n (i := 0) (q := 1) dX6_minute_0 rfl rfl rfl ?_
  refine g_getv (q := 4) (z := S.1 0) dX6_minute_1 rfl fk_X6_55 rfl rfl rfl ?_
  exact g_ret dX6_minute_4 rfl (by decide) (by first | exact ⟨rfl, rfl⟩ | (exfalso; omega))
