/-! ===== Portinghall's own small methods ===== -/
theorem s_X6_requireFirm_ok {S : zS} {f : Int} (h : 0 ≤ f ∧ f < 6) : z_Fn mX6_requireFirm [zI f] S none S := by
  refine z_enter (by decide +kernel) rfl (z_n1 trivial z_n0) (Nat.le_of_ble_eq_true rfl) ?_
  refine g_iload_n (i := 0) (q := 1) dX6_requireFirm_0 rfl rfl rfl ?_
  refine g_fnS (as := [zI f]) (q := 4) (u' := 0) dX6_requireFirm_1 rfl ck_X6_69 rfl rfl (Nat.le_of_ble_eq_true rfl) (by decide) rfl (by decide) (s_X6_isFirm_t h) rfl ?_
  refine g_if_ne (t := 18) (q := 7) dX6_requireFirm_4 (by decide) rfl (fun h4 => ?_) (fun h4 => (False.elim (by omega)))
  exact g_retv dX6_requireFirm_18 rfl (by decide) (by first | exact ⟨rfl, rfl⟩ | (exfalso; omega))
theorem s_X6_requireFirm_ex {S : zS} {f : Int} (h : ¬ (0 ≤ f ∧ f < 6)) : z_Ex mX6_requireFirm [zI f] S xI S := by
  refine z_enter (by decide +kernel) rfl (z_n1 trivial z_n0) (Nat.le_of_ble_eq_true rfl) ?_
  refine g_iload_n (i := 0) (q := 1) dX6_requireFirm_0 rfl rfl rfl ?_
  refine g_fnS (as := [zI f]) (q := 4) (u' := 0) dX6_requireFirm_1 rfl ck_X6_69 rfl rfl (Nat.le_of_ble_eq_true rfl) (by decide) rfl (by decide) (s_X6_isFirm_f h) rfl ?_
  refine g_if_ne (t := 18) (q := 7) dX6_requireFirm_4 (by decide) rfl (fun h4 => (False.elim (by omega))) (fun h4 => ?_)
  exact g_throwW (text := "no such firm") rfl rfl z_tk_I (by decide +kernel) dX6_requireFirm_7 dX6_requireFirm_10 dX6_requireFirm_11 dX6_requireFirm_14 dX6_requireFirm_17 (by decide) (by decide) (by decide) (by first | exact ⟨rfl, rfl⟩ | (exfalso; omega))
theorem s_X6_requireNumber_ok {S : zS} {n : Int} (h : 0 ≤ n ∧ n < 200) : z_Fn mX6_requireNumber [zI n] S none S := by
  refine z_enter (by decide +kernel) rfl (z_n1 trivial z_n0) (Nat.le_of_ble_eq_true rfl) ?_
  refine g_iload_n (i := 0) (q := 1) dX6_requireNumber_0 rfl rfl rfl ?_
  refine g_if_lt (t := 11) (q := 4) dX6_requireNumber_1 (by decide) rfl (fun h1 => ?_) (fun h1 => ?_)
  · exact g_throwW (text := "no such number") rfl rfl z_tk_I (by decide +kernel) dX6_requireNumber_11 dX6_requireNumber_14 dX6_requireNumber_15 dX6_requireNumber_18 dX6_requireNumber_21 (by decide) (by decide) (by decide) (by first | exact ⟨rfl, rfl⟩ | (exfalso; omega))
  · refine g_iload_n (i := 0) (q := 5) dX6_requireNumber_4 rfl rfl rfl ?_
    refine g_sipush (q := 8) dX6_requireNumber_5 rfl ⟨by decide, by decide⟩ (by decide) ?_
    refine g_icmp_lt (t := 22) (q := 11) dX6_requireNumber_8 (by decide) rfl (fun h8 => ?_) (fun h8 => ?_)
    · exact g_retv dX6_requireNumber_22 rfl (by decide) (by first | exact ⟨rfl, rfl⟩ | (exfalso; omega))
    · exact g_throwW (text := "no such number") rfl rfl z_tk_I (by decide +kernel) dX6_requireNumber_11 dX6_requireNumber_14 dX6_requireNumber_15 dX6_requireNumber_18 dX6_requireNumber_21 (by decide) (by decide) (by decide) (by first | exact ⟨rfl, rfl⟩ | (exfalso; omega))
theorem s_X6_requireNumber_ex {S : zS} {n : Int} (h : ¬ (0 ≤ n ∧ n < 200)) : z_Ex mX6_requireNumber [zI n] S xI S := by
  refine z_enter (by decide +kernel) rfl (z_n1 trivial z_n0) (Nat.le_of_ble_eq_true rfl) ?_
  refine g_iload_n (i := 0) (q := 1) dX6_requireNumber_0 rfl rfl rfl ?_
  refine g_if_lt (t := 11) (q := 4) dX6_requireNumber_1 (by decide) rfl (fun h1 => ?_) (fun h1 => ?_)
  · exact g_throwW (text := "no such number") rfl rfl z_tk_I (by decide +kernel) dX6_requireNumber_11 dX6_requireNumber_14 dX6_requireNumber_15 dX6_requireNumber_18 dX6_requireNumber_21 (by decide) (by decide) (by decide) (by first | exact ⟨rfl, rfl⟩ | (exfalso; omega))
  · refine g_iload_n (i := 0) (q := 5) dX6_requireNumber_4 rfl rfl rfl ?_
    refine g_sipush (q := 8) dX6_requireNumber_5 rfl ⟨by decide, by decide⟩ (by decide) ?_
    refine g_icmp_lt (t := 22) (q := 11) dX6_requireNumber_8 (by decide) rfl (fun h8 => ?_) (fun h8 => ?_)
    · exact g_retv dX6_requireNumber_22 rfl (by decide) (by first | exact ⟨rfl, rfl⟩ | (exfalso; omega))
    · exact g_throwW (text := "no such number") rfl rfl z_tk_I (by decide +kernel) dX6_requireNumber_11 dX6_requireNumber_14 dX6_requireNumber_15 dX6_requireNumber_18 dX6_requireNumber_21 (by decide) (by decide) (by decide) (by first | exact ⟨rfl, rfl⟩ | (exfalso; omega))
theorem s_X6_requireSecret_ok {S : zS} {n : Int} (h : 0 ≤ n ∧ n < 100) : z_Fn mX6_requireSecret [zI n] S none S := by
  refine z_enter (by decide +kernel) rfl (z_n1 trivial z_n0) (Nat.le_of_ble_eq_true rfl) ?_
  refine g_iload_n (i := 0) (q := 1) dX6_requireSecret_0 rfl rfl rfl ?_
  refine g_if_lt (t := 10) (q := 4) dX6_requireSecret_1 (by decide) rfl (fun h1 => ?_) (fun h1 => ?_)
  · exact g_throwW (text := "secret is out of range") rfl rfl z_tk_A (by decide +kernel) dX6_requireSecret_10 dX6_requireSecret_13 dX6_requireSecret_14 dX6_requireSecret_17 dX6_requireSecret_20 (by decide) (by decide) (by decide) (by first | exact ⟨rfl, rfl⟩ | (exfalso; omega))
  · refine g_iload_n (i := 0) (q := 5) dX6_requireSecret_4 rfl rfl rfl ?_
    refine g_bipush (q := 7) dX6_requireSecret_5 rfl ⟨by decide, by decide⟩ (by decide) ?_
    refine g_icmp_lt (t := 21) (q := 10) dX6_requireSecret_7 (by decide) rfl (fun h7 => ?_) (fun h7 => ?_)
    · exact g_retv dX6_requireSecret_21 rfl (by decide) (by first | exact ⟨rfl, rfl⟩ | (exfalso; omega))
    · exact g_throwW (text := "secret is out of range") rfl rfl z_tk_A (by decide +kernel) dX6_requireSecret_10 dX6_requireSecret_13 dX6_requireSecret_14 dX6_requireSecret_17 dX6_requireSecret_20 (by decide) (by decide) (by decide) (by first | exact ⟨rfl, rfl⟩ | (exfalso; omega))
theorem s_X6_requireSecret_ex {S : zS} {n : Int} (h : ¬ (0 ≤ n ∧ n < 100)) : z_Ex mX6_requireSecret [zI n] S xA S := by
  refine z_enter (by decide +kernel) rfl (z_n1 trivial z_n0) (Nat.le_of_ble_eq_true rfl) ?_
  refine g_iload_n (i := 0) (q := 1) dX6_requireSecret_0 rfl rfl rfl ?_
  refine g_if_lt (t := 10) (q := 4) dX6_requireSecret_1 (by decide) rfl (fun h1 => ?_) (fun h1 => ?_)
  · exact g_throwW (text := "secret is out of range") rfl rfl z_tk_A (by decide +kernel) dX6_requireSecret_10 dX6_requireSecret_13 dX6_requireSecret_14 dX6_requireSecret_17 dX6_requireSecret_20 (by decide) (by decide) (by decide) (by first | exact ⟨rfl, rfl⟩ | (exfalso; omega))
  · refine g_iload_n (i := 0) (q := 5) dX6_requireSecret_4 rfl rfl rfl ?_
    refine g_bipush (q := 7) dX6_requireSecret_5 rfl ⟨by decide, by decide⟩ (by decide) ?_
    refine g_icmp_lt (t := 21) (q := 10) dX6_requireSecret_7 (by decide) rfl (fun h7 => ?_) (fun h7 => ?_)
    · exact g_retv dX6_requireSecret_21 rfl (by decide) (by first | exact ⟨rfl, rfl⟩ | (exfalso; omega))
    · exact g_throwW (text := "secret is out of range") rfl rfl z_tk_A (by decide +kernel) dX6_requireSecret_10 dX6_requireSecret_13 dX6_requireSecret_14 dX6_requireSecret_17 dX6_requireSecret_20 (by decide) (by decide) (by decide) (by first | exact ⟨rfl, rfl⟩ | (exfalso; omega))
theorem s_X6_requireWhat_ok {S : zS} {w n : Int} (h : 0 ≤ w ∧ w < n) : z_Fn mX6_requireWhat [zI w, zI n] S none S := by
  refine z_enter (by decide +kernel) rfl (z_n1 trivial (z_n1 trivial z_n0)) (Nat.le_of_ble_eq_true rfl) ?_
  refine g_iload_n (i := 0) (q := 1) dX6_requireWhat_0 rfl rfl rfl ?_
  refine g_if_lt (t := 9) (q := 4) dX6_requireWhat_1 (by decide) rfl (fun h1 => ?_) (fun h1 => ?_)
  · exact g_throwW (text := "what is out of range") rfl rfl z_tk_A (by decide +kernel) dX6_requireWhat_9 dX6_requireWhat_12 dX6_requireWhat_13 dX6_requireWhat_16 dX6_requireWhat_19 (by decide) (by decide) (by decide) (by first | exact ⟨rfl, rfl⟩ | (exfalso; omega))
  · refine g_iload_n (i := 0) (q := 5) dX6_requireWhat_4 rfl rfl rfl ?_
    refine g_iload_n (i := 1) (q := 6) dX6_requireWhat_5 rfl rfl rfl ?_
    refine g_icmp_lt (t := 20) (q := 9) dX6_requireWhat_6 (by decide) rfl (fun h6 => ?_) (fun h6 => ?_)
    · exact g_retv dX6_requireWhat_20 rfl (by decide) (by first | exact ⟨rfl, rfl⟩ | (exfalso; omega))
    · exact g_throwW (text := "what is out of range") rfl rfl z_tk_A (by decide +kernel) dX6_requireWhat_9 dX6_requireWhat_12 dX6_requireWhat_13 dX6_requireWhat_16 dX6_requireWhat_19 (by decide) (by decide) (by decide) (by first | exact ⟨rfl, rfl⟩ | (exfalso; omega))
theorem s_X6_requireWhat_ex {S : zS} {w n : Int} (h : ¬ (0 ≤ w ∧ w < n)) : z_Ex mX6_requireWhat [zI w, zI n] S xA S := by
  refine z_enter (by decide +kernel) rfl (z_n1 trivial (z_n1 trivial z_n0)) (Nat.le_of_ble_eq_true rfl) ?_
  refine g_iload_n (i := 0) (q := 1) dX6_requireWhat_0 rfl rfl rfl ?_
  refine g_if_lt (t := 9) (q := 4) dX6_requireWhat_1 (by decide) rfl (fun h1 => ?_) (fun h1 => ?_)
  · exact g_throwW (text := "what is out of range") rfl rfl z_tk_A (by decide +kernel) dX6_requireWhat_9 dX6_requireWhat_12 dX6_requireWhat_13 dX6_requireWhat_16 dX6_requireWhat_19 (by decide) (by decide) (by decide) (by first | exact ⟨rfl, rfl⟩ | (exfalso; omega))
  · refine g_iload_n (i := 0) (q := 5) dX6_requireWhat_4 rfl rfl rfl ?_
    refine g_iload_n (i := 1) (q := 6) dX6_requireWhat_5 rfl rfl rfl ?_
    refine g_icmp_lt (t := 20) (q := 9) dX6_requireWhat_6 (by decide) rfl (fun h6 => ?_) (fun h6 => ?_)
    · exact g_retv dX6_requireWhat_20 rfl (by decide) (by first | exact ⟨rfl, rfl⟩ | (exfalso; omega))
    · exact g_throwW (text := "what is out of range") rfl rfl z_tk_A (by decide +kernel) dX6_requireWhat_9 dX6_requireWhat_12 dX6_requireWhat_13 dX6_requireWhat_16 dX6_requireWhat_19 (by decide) (by decide) (by decide) (by first | exact ⟨rfl, rfl⟩ | (exfalso; omega))
theorem s_X6_requireWay_ok {S : zS} {w : Int} (h : 0 ≤ w ∧ w ≤ 2) : z_Fn mX6_requireWay [zI w] S none S := by
  refine z_enter (by decide +kernel) rfl (z_n1 trivial z_n0) (Nat.le_of_ble_eq_true rfl) ?_
  refine g_iload_n (i := 0) (q := 1) dX6_requireWay_0 rfl rfl rfl ?_
  refine g_if_lt (t := 9) (q := 4) dX6_requireWay_1 (by decide) rfl (fun h1 => ?_) (fun h1 => ?_)
  · exact g_throwW (text := "way is out of range") rfl rfl z_tk_A (by decide +kernel) dX6_requireWay_9 dX6_requireWay_12 dX6_requireWay_13 dX6_requireWay_16 dX6_requireWay_19 (by decide) (by decide) (by decide) (by first | exact ⟨rfl, rfl⟩ | (exfalso; omega))
  · refine g_iload_n (i := 0) (q := 5) dX6_requireWay_4 rfl rfl rfl ?_
    refine g_iconst (q := 6) dX6_requireWay_5 rfl ⟨by decide, by decide⟩ ?_
    refine g_icmp_le (t := 20) (q := 9) dX6_requireWay_6 (by decide) rfl (fun h6 => ?_) (fun h6 => ?_)
    · exact g_retv dX6_requireWay_20 rfl (by decide) (by first | exact ⟨rfl, rfl⟩ | (exfalso; omega))
    · exact g_throwW (text := "way is out of range") rfl rfl z_tk_A (by decide +kernel) dX6_requireWay_9 dX6_requireWay_12 dX6_requireWay_13 dX6_requireWay_16 dX6_requireWay_19 (by decide) (by decide) (by decide) (by first | exact ⟨rfl, rfl⟩ | (exfalso; omega))
theorem s_X6_requireWay_ex {S : zS} {w : Int} (h : ¬ (0 ≤ w ∧ w ≤ 2)) : z_Ex mX6_requireWay [zI w] S xA S := by
  refine z_enter (by decide +kernel) rfl (z_n1 trivial z_n0) (Nat.le_of_ble_eq_true rfl) ?_
  refine g_iload_n (i := 0) (q := 1) dX6_requireWay_0 rfl rfl rfl ?_
  refine g_if_lt (t := 9) (q := 4) dX6_requireWay_1 (by decide) rfl (fun h1 => ?_) (fun h1 => ?_)
  · exact g_throwW (text := "way is out of range") rfl rfl z_tk_A (by decide +kernel) dX6_requireWay_9 dX6_requireWay_12 dX6_requireWay_13 dX6_requireWay_16 dX6_requireWay_19 (by decide) (by decide) (by decide) (by first | exact ⟨rfl, rfl⟩ | (exfalso; omega))
  · refine g_iload_n (i := 0) (q := 5) dX6_requireWay_4 rfl rfl rfl ?_
    refine g_iconst (q := 6) dX6_requireWay_5 rfl ⟨by decide, by decide⟩ ?_
    refine g_icmp_le (t := 20) (q := 9) dX6_requireWay_6 (by decide) rfl (fun h6 => ?_) (fun h6 => ?_)
    · exact g_retv dX6_requireWay_20 rfl (by decide) (by first | exact ⟨rfl, rfl⟩ | (exfalso; omega))
    · exact g_throwW (text := "way is out of range") rfl rfl z_tk_A (by decide +kernel) dX6_requireWay_9 dX6_requireWay_12 dX6_requireWay_13 dX6_requireWay_16 dX6_requireWay_19 (by decide) (by decide) (by decide) (by first | exact ⟨rfl, rfl⟩ | (exfalso; omega))
theorem s_X6_requireOrder_ok {S : zS} {o : Int} (h : 0 ≤ o ∧ o < S.1 1) : z_Fn mX6_requireOrder [zR 0, zI o] S none S := by
  refine z_enter (by decide +kernel) rfl (z_n1 trivial (z_n1 trivial z_n0)) (Nat.le_of_ble_eq_true rfl) ?_
  refine g_iload_n (i := 1) (q := 1) dX6_requireOrder_0 rfl rfl rfl ?_
  refine g_if_lt (t := 15) (q := 4) dX6_requireOrder_1 (by decide) rfl (fun h1 => ?_) (fun h1 => ?_)
  · exact g_throwW (text := "no such order") rfl rfl z_tk_I (by decide +kernel) dX6_requireOrder_15 dX6_requireOrder_18 dX6_requireOrder_19 dX6_requireOrder_22 dX6_requireOrder_25 (by decide) (by decide) (by decide) (by first | exact ⟨rfl, rfl⟩ | (exfalso; omega))
  · refine g_iload_n (i := 1) (q := 5) dX6_requireOrder_4 rfl rfl rfl ?_
    refine g_aload_n (i := 0) (q := 6) dX6_requireOrder_5 rfl rfl rfl ?_
    refine g_getr (q := 9) dX6_requireOrder_6 rfl fk_X6_30 rfl rfl ?_
    refine g_getv (q := 12) (z := S.1 1) dX6_requireOrder_9 rfl fk_X6_172 rfl rfl rfl ?_
    refine g_icmp_lt (t := 26) (q := 15) dX6_requireOrder_12 (by decide) rfl (fun h12 => ?_) (fun h12 => ?_)
    · exact g_retv dX6_requireOrder_26 rfl (by decide) (by first | exact ⟨rfl, rfl⟩ | (exfalso; omega))
    · exact g_throwW (text := "no such order") rfl rfl z_tk_I (by decide +kernel) dX6_requireOrder_15 dX6_requireOrder_18 dX6_requireOrder_19 dX6_requireOrder_22 dX6_requireOrder_25 (by decide) (by decide) (by decide) (by first | exact ⟨rfl, rfl⟩ | (exfalso; omega))
theorem s_X6_requireOrder_ex {S : zS} {o : Int} (h : ¬ (0 ≤ o ∧ o < S.1 1)) : z_Ex mX6_requireOrder [zR 0, zI o] S xI S := by
  refine z_enter (by decide +kernel) rfl (z_n1 trivial (z_n1 trivial z_n0)) (Nat.le_of_ble_eq_true rfl) ?_
  refine g_iload_n (i := 1) (q := 1) dX6_requireOrder_0 rfl rfl rfl ?_
  refine g_if_lt (t := 15) (q := 4) dX6_requireOrder_1 (by decide) rfl (fun h1 => ?_) (fun h1 => ?_)
  · exact g_throwW (text := "no such order") rfl rfl z_tk_I (by decide +kernel) dX6_requireOrder_15 dX6_requireOrder_18 dX6_requireOrder_19 dX6_requireOrder_22 dX6_requireOrder_25 (by decide) (by decide) (by decide) (by first | exact ⟨rfl, rfl⟩ | (exfalso; omega))
  · refine g_iload_n (i := 1) (q := 5) dX6_requireOrder_4 rfl rfl rfl ?_
    refine g_aload_n (i := 0) (q := 6) dX6_requireOrder_5 rfl rfl rfl ?_
    refine g_getr (q := 9) dX6_requireOrder_6 rfl fk_X6_30 rfl rfl ?_
    refine g_getv (q := 12) (z := S.1 1) dX6_requireOrder_9 rfl fk_X6_172 rfl rfl rfl ?_
    refine g_icmp_lt (t := 26) (q := 15) dX6_requireOrder_12 (by decide) rfl (fun h12 => ?_) (fun h12 => ?_)
    · exact g_retv dX6_requireOrder_26 rfl (by decide) (by first | exact ⟨rfl, rfl⟩ | (exfalso; omega))
    · exact g_throwW (text := "no such order") rfl rfl z_tk_I (by decide +kernel) dX6_requireOrder_15 dX6_requireOrder_18 dX6_requireOrder_19 dX6_requireOrder_22 dX6_requireOrder_25 (by decide) (by decide) (by decide) (by first | exact ⟨rfl, rfl⟩ | (exfalso; omega))
theorem s_X6_requireInUse_ok {S : zS} {n : Int} (hn : 0 ≤ n ∧ n < 200) (h : ¬ S.2.1 13 n = -1) : z_Fn mX6_requireInUse [zR 0, zI n] S none S := by
  refine z_enter (by decide +kernel) rfl (z_n1 trivial (z_n1 trivial z_n0)) (Nat.le_of_ble_eq_true rfl) ?_
  refine g_aload_n (i := 0) (q := 1) dX6_requireInUse_0 rfl rfl rfl ?_
  refine g_getr (q := 4) dX6_requireInUse_1 rfl fk_X6_23 rfl rfl ?_
  refine g_iload_n (i := 1) (q := 5) dX6_requireInUse_4 rfl rfl rfl ?_
  refine g_fnV (as := [zI n]) (q := 8) (u' := 0) dX6_requireInUse_5 rfl ck_X6_109 rfl rfl rfl (Nat.le_of_ble_eq_true rfl) (by decide) rfl (by decide) (s_X1_isInUse_t hn h) rfl ?_
  refine g_if_ne (t := 22) (q := 11) dX6_requireInUse_8 (by decide) rfl (fun h8 => ?_) (fun h8 => (False.elim (by omega)))
  exact g_retv dX6_requireInUse_22 rfl (by decide) (by first | exact ⟨rfl, rfl⟩ | (exfalso; omega))
theorem s_X6_requireInUse_ex {S : zS} {n : Int} (hn : 0 ≤ n ∧ n < 200) (h : ¬ ¬ S.2.1 13 n = -1) : z_Ex mX6_requireInUse [zR 0, zI n] S xS S := by
  refine z_enter (by decide +kernel) rfl (z_n1 trivial (z_n1 trivial z_n0)) (Nat.le_of_ble_eq_true rfl) ?_
  refine g_aload_n (i := 0) (q := 1) dX6_requireInUse_0 rfl rfl rfl ?_
  refine g_getr (q := 4) dX6_requireInUse_1 rfl fk_X6_23 rfl rfl ?_
  refine g_iload_n (i := 1) (q := 5) dX6_requireInUse_4 rfl rfl rfl ?_
  refine g_fnV (as := [zI n]) (q := 8) (u' := 0) dX6_requireInUse_5 rfl ck_X6_109 rfl rfl rfl (Nat.le_of_ble_eq_true rfl) (by decide) rfl (by decide) (s_X1_isInUse_f hn (Decidable.not_not.mp h)) rfl ?_
  refine g_if_ne (t := 22) (q := 11) dX6_requireInUse_8 (by decide) rfl (fun h8 => (False.elim (by omega))) (fun h8 => ?_)
  exact g_throwW (text := "the number is not in use") rfl rfl z_tk_S (by decide +kernel) dX6_requireInUse_11 dX6_requireInUse_14 dX6_requireInUse_15 dX6_requireInUse_18 dX6_requireInUse_21 (by decide) (by decide) (by decide) (by first | exact ⟨rfl, rfl⟩ | (exfalso; omega))
theorem s_X6_asInt {S : zS} {v : Int} (h : v = 0 ∨ v = 1) : z_Fn mX6_asInt [zI v] S (some (zI v)) S := by
  rcases h with rfl | rfl
  · skip
    refine z_enter (by decide +kernel) rfl (z_n1 trivial z_n0) (Nat.le_of_ble_eq_true rfl) ?_
    refine g_iload_n (i := 0) (q := 1) dX6_asInt_0 rfl rfl rfl ?_
    refine g_if_eq (t := 8) (q := 4) dX6_asInt_1 (by decide) rfl (fun h1 => ?_) (fun h1 => (False.elim (by omega)))
    refine g_iconst (q := 9) dX6_asInt_8 rfl ⟨by decide, by decide⟩ ?_
    exact g_ret dX6_asInt_9 rfl (by decide) (by first | exact ⟨rfl, rfl⟩ | (exfalso; omega))
  · skip
    refine z_enter (by decide +kernel) rfl (z_n1 trivial z_n0) (Nat.le_of_ble_eq_true rfl) ?_
    refine g_iload_n (i := 0) (q := 1) dX6_asInt_0 rfl rfl rfl ?_
    refine g_if_eq (t := 8) (q := 4) dX6_asInt_1 (by decide) rfl (fun h1 => (False.elim (by omega))) (fun h1 => ?_)
    refine g_iconst (q := 5) dX6_asInt_4 rfl ⟨by decide, by decide⟩ ?_
    refine g_goto (q := 0) (t := 9) dX6_asInt_5 (by decide) ?_
    exact g_ret dX6_asInt_9 rfl (by decide) (by first | exact ⟨rfl, rfl⟩ | (exfalso; omega))
theorem s_X6_holderOf {S : zS} {n : Int} (hn : 0 ≤ n ∧ n < 200) : z_Fn mX6_holderOf [zR 0, zI n] S (some (zI (S.2.1 8 (n / 10)))) S := by
  refine z_enter (by decide +kernel) rfl (z_n1 trivial (z_n1 trivial z_n0)) (Nat.le_of_ble_eq_true rfl) ?_
  refine g_aload_n (i := 0) (q := 1) dX6_holderOf_0 rfl rfl rfl ?_
  refine g_getr (q := 4) dX6_holderOf_1 rfl fk_X6_9 rfl rfl ?_
  refine g_iload_n (i := 1) (q := 5) dX6_holderOf_4 rfl rfl rfl ?_
  refine g_bipush (q := 7) dX6_holderOf_5 rfl ⟨by decide, by decide⟩ (by decide) ?_
  refine g_idiv (q := 8) dX6_holderOf_7 rfl (by omega) (by omega) ?_
  refine g_ildv (q := 9) (z := S.2.1 8 (n / 10)) dX6_holderOf_8 rfl ⟨by decide, rfl, rfl⟩ (by omega) (by omega) rfl ?_
  exact g_ret dX6_holderOf_9 rfl (by decide) (by first | exact ⟨rfl, rfl⟩ | (exfalso; omega))
def x_cb (S : zS) (f : Int) (c : Nat) : Nat := z_ct (fun k => decide (S.2.1 8 k = f)) c
theorem x_cb_s (S : zS) (f : Int) (i : Nat) : x_cb S f (i + 1) = x_cb S f i + if S.2.1 8 i = f then 1 else 0 := by
  unfold x_cb
  rw [z_ct]
  simp
theorem x_cb_le (S : zS) (f : Int) (i : Nat) : x_cb S f i ≤ i := z_ct_le _ _
theorem l_X6_countBlocksOf {Q : zQ} {S : zS} {f : Int} (hQ : Q (.ok (some (zI (x_cb S f 20)))) S) : ∀ (k i : Nat) (w : Int), i + k = 20 → w = x_cb S f i → z_G mX6_countBlocksOf (z_F mX6_countBlocksOf Q) 0 4 [some (zR 0), some (zI f), some (zI w), some (zI (i : Int))] [] S := by
  intro k
  induction k with
  | zero =>
    intro i w hi hw
    have e : i = 20 := by omega
    subst e
    subst hw
    refine g_iload_n (i := 3) (q := 5) dX6_countBlocksOf_4 rfl rfl rfl ?_
    refine g_bipush (q := 7) dX6_countBlocksOf_5 rfl ⟨by decide, by decide⟩ (by decide) ?_
    refine g_icmp_ge (t := 29) (q := 10) dX6_countBlocksOf_7 (by decide) rfl (fun h7 => ?_) (fun h7 => (False.elim (by omega)))
    refine g_iload_n (i := 2) (q := 30) dX6_countBlocksOf_29 rfl rfl rfl ?_
    exact g_ret dX6_countBlocksOf_30 rfl (by decide) hQ
  | succ k ih =>
    intro i w hi hw
    have hle := x_cb_le S f i
    refine g_iload_n (i := 3) (q := 5) dX6_countBlocksOf_4 rfl rfl rfl ?_
    refine g_bipush (q := 7) dX6_countBlocksOf_5 rfl ⟨by decide, by decide⟩ (by decide) ?_
    refine g_icmp_ge (t := 29) (q := 10) dX6_countBlocksOf_7 (by decide) rfl (fun h7 => (False.elim (by omega))) (fun h7 => ?_)
    refine g_aload_n (i := 0) (q := 11) dX6_countBlocksOf_10 rfl rfl rfl ?_
    refine g_getr (q := 14) dX6_countBlocksOf_11 rfl fk_X6_9 rfl rfl ?_
    refine g_iload_n (i := 3) (q := 15) dX6_countBlocksOf_14 rfl rfl rfl ?_
    refine g_ildv (q := 16) (z := S.2.1 8 (i : Int)) dX6_countBlocksOf_15 rfl ⟨by decide, rfl, rfl⟩ (by omega) (by omega) rfl ?_
    refine g_iload_n (i := 1) (q := 17) dX6_countBlocksOf_16 rfl rfl rfl ?_
    refine g_icmp_ne (t := 23) (q := 20) dX6_countBlocksOf_17 (by decide) rfl (fun h17 => ?_) (fun h17 => ?_)
    · refine g_iinc (q := 26) (i := 3) (n := 1) dX6_countBlocksOf_23 rfl rfl (by constructor <;> omega) ?_
      refine g_goto (q := 0) (t := 4) dX6_countBlocksOf_26 (by decide) ?_
      exact ih (i + 1) _ (by omega) (by rw [x_cb_s]; split <;> omega)
    · refine g_iinc (q := 23) (i := 2) (n := 1) dX6_countBlocksOf_20 rfl rfl (by constructor <;> omega) ?_
      refine g_iinc (q := 26) (i := 3) (n := 1) dX6_countBlocksOf_23 rfl rfl (by constructor <;> omega) ?_
      refine g_goto (q := 0) (t := 4) dX6_countBlocksOf_26 (by decide) ?_
      exact ih (i + 1) _ (by omega) (by rw [x_cb_s]; split <;> omega)
theorem s_X6_countBlocksOf {S : zS} {f : Int} : z_Fn mX6_countBlocksOf [zR 0, zI f] S (some (zI (x_cb S f 20))) S := by
  refine z_enter (by decide +kernel) rfl (z_n1 trivial (z_n1 trivial z_n0)) (Nat.le_of_ble_eq_true rfl) ?_
  refine g_iconst (q := 1) dX6_countBlocksOf_0 rfl ⟨by decide, by decide⟩ ?_
  refine g_istore_n (i := 2) (q := 2) dX6_countBlocksOf_1 rfl rfl (by decide) ?_
  refine g_iconst (q := 3) dX6_countBlocksOf_2 rfl ⟨by decide, by decide⟩ ?_
  refine g_istore_n (i := 3) (q := 4) dX6_countBlocksOf_3 rfl rfl (by decide) ?_
  exact l_X6_countBlocksOf ⟨rfl, rfl⟩ 20 0 0 (by omega) rfl
/-- whether one of the numbers from i on is in use, or in quarantine -/
def x_bb (S : zS) : Nat → Nat → Bool
  | _, 0 => false
  | i, k + 1 => decide (¬ S.2.1 13 i = -1 ∨ S.1 0 ≤ S.2.1 15 i) || x_bb S (i + 1) k
theorem l_X6_isBlockBusy {Q : zQ} {S : zS} {b : Nat} (hb : b < 20) : ∀ (k i : Nat), i + k = 10 * b + 10 → 10 * b ≤ i → Q (.ok (some (zI (if x_bb S i k then 1 else 0)))) S → z_G mX6_isBlockBusy (z_F mX6_isBlockBusy Q) 0 7 [some (zR 0), some (zI (b : Int)), some (zI ((b : Int) * 10)), some (zI (i : Int))] [] S := by
  intro k
  induction k with
  | zero =>
    intro i hi hi2 hQ
    refine g_iload_n (i := 3) (q := 8) dX6_isBlockBusy_7 rfl rfl rfl ?_
    refine g_iload_n (i := 2) (q := 9) dX6_isBlockBusy_8 rfl rfl rfl ?_
    refine g_bipush (q := 11) dX6_isBlockBusy_9 rfl ⟨by decide, by decide⟩ (by decide) ?_
    refine g_iadd (q := 12) dX6_isBlockBusy_11 rfl (by constructor <;> omega) ?_
    refine g_icmp_ge (t := 49) (q := 15) dX6_isBlockBusy_12 (by decide) rfl (fun h12 => ?_) (fun h12 => (False.elim (by omega)))
    refine g_iconst (q := 50) dX6_isBlockBusy_49 rfl ⟨by decide, by decide⟩ ?_
    exact g_retz dX6_isBlockBusy_50 rfl (by omega) (by decide) hQ
  | succ k ih =>
    intro i hi hi2 hQ
    rw [x_bb] at hQ
    refine g_iload_n (i := 3) (q := 8) dX6_isBlockBusy_7 rfl rfl rfl ?_
    refine g_iload_n (i := 2) (q := 9) dX6_isBlockBusy_8 rfl rfl rfl ?_
    refine g_bipush (q := 11) dX6_isBlockBusy_9 rfl ⟨by decide, by decide⟩ (by decide) ?_
    refine g_iadd (q := 12) dX6_isBlockBusy_11 rfl (by constructor <;> omega) ?_
    refine g_icmp_ge (t := 49) (q := 15) dX6_isBlockBusy_12 (by decide) rfl (fun h12 => (False.elim (by omega))) (fun h12 => ?_)
    refine g_aload_n (i := 0) (q := 16) dX6_isBlockBusy_15 rfl rfl rfl ?_
    refine g_getr (q := 19) dX6_isBlockBusy_16 rfl fk_X6_23 rfl rfl ?_
    refine g_iload_n (i := 3) (q := 20) dX6_isBlockBusy_19 rfl rfl rfl ?_
    by_cases c20 : ¬ (S).2.1 13 (i : Int) = -1
    · refine g_fnV (as := [zI (i : Int)]) (q := 23) (u' := 0) dX6_isBlockBusy_20 rfl ck_X6_109 rfl rfl rfl (Nat.le_of_ble_eq_true rfl) (by decide) rfl (by decide) (s_X1_isInUse_t (by omega) c20) rfl ?_
      refine g_if_ne (t := 41) (q := 26) dX6_isBlockBusy_23 (by decide) rfl (fun h23 => ?_) (fun h23 => (False.elim (by omega)))
      refine g_iconst (q := 42) dX6_isBlockBusy_41 rfl ⟨by decide, by decide⟩ ?_
      exact g_retz dX6_isBlockBusy_42 rfl (by omega) (by decide) (by rw [decide_eq_true (by omega), Bool.true_or] at hQ; exact hQ)
    · refine g_fnV (as := [zI (i : Int)]) (q := 23) (u' := 0) dX6_isBlockBusy_20 rfl ck_X6_109 rfl rfl rfl (Nat.le_of_ble_eq_true rfl) (by decide) rfl (by decide) (s_X1_isInUse_f (by omega) (Decidable.not_not.mp c20)) rfl ?_
      refine g_if_ne (t := 41) (q := 26) dX6_isBlockBusy_23 (by decide) rfl (fun h23 => (False.elim (by omega))) (fun h23 => ?_)
      refine g_aload_n (i := 0) (q := 27) dX6_isBlockBusy_26 rfl rfl rfl ?_
      refine g_getr (q := 30) dX6_isBlockBusy_27 rfl fk_X6_23 rfl rfl ?_
      refine g_iload_n (i := 3) (q := 31) dX6_isBlockBusy_30 rfl rfl rfl ?_
      refine g_aload_n (i := 0) (q := 32) dX6_isBlockBusy_31 rfl rfl rfl ?_
      refine g_getv (q := 35) (z := S.1 0) dX6_isBlockBusy_32 rfl fk_X6_55 rfl rfl rfl ?_
      by_cases c35 : S.1 0 ≤ (S).2.1 15 (i : Int)
      · refine g_fnV (as := [zI (i : Int), zI (S.1 0)]) (q := 38) (u' := 0) dX6_isBlockBusy_35 rfl ck_X6_112 rfl rfl rfl (Nat.le_of_ble_eq_true rfl) (by decide) rfl (by decide) (s_X1_isInQuarantine_t (by omega) c35) rfl ?_
        refine g_if_eq (t := 43) (q := 41) dX6_isBlockBusy_38 (by decide) rfl (fun h38 => (False.elim (by omega))) (fun h38 => ?_)
        refine g_iconst (q := 42) dX6_isBlockBusy_41 rfl ⟨by decide, by decide⟩ ?_
        exact g_retz dX6_isBlockBusy_42 rfl (by omega) (by decide) (by rw [decide_eq_true (by omega), Bool.true_or] at hQ; exact hQ)
      · refine g_fnV (as := [zI (i : Int), zI (S.1 0)]) (q := 38) (u' := 0) dX6_isBlockBusy_35 rfl ck_X6_112 rfl rfl rfl (Nat.le_of_ble_eq_true rfl) (by decide) rfl (by decide) (s_X1_isInQuarantine_f (by omega) c35) rfl ?_
        refine g_if_eq (t := 43) (q := 41) dX6_isBlockBusy_38 (by decide) rfl (fun h38 => ?_) (fun h38 => (False.elim (by omega)))
        refine g_iinc (q := 46) (i := 3) (n := 1) dX6_isBlockBusy_43 rfl rfl (by constructor <;> omega) ?_
        refine g_goto (q := 0) (t := 7) dX6_isBlockBusy_46 (by decide) ?_
        exact ih (i + 1) (by omega) (by omega) (by rw [decide_eq_false (by omega), Bool.false_or] at hQ; exact hQ)
theorem s_X6_isBlockBusy {S : zS} {b : Nat} (hb : b < 20) : z_Fn mX6_isBlockBusy [zR 0, zI b] S (some (zI (if x_bb S (10 * b) 10 then 1 else 0))) S := by
  refine z_enter (by decide +kernel) rfl (z_n1 trivial (z_n1 trivial z_n0)) (Nat.le_of_ble_eq_true rfl) ?_
  refine g_iload_n (i := 1) (q := 1) dX6_isBlockBusy_0 rfl rfl rfl ?_
  refine g_bipush (q := 3) dX6_isBlockBusy_1 rfl ⟨by decide, by decide⟩ (by decide) ?_
  refine g_imul (q := 4) dX6_isBlockBusy_3 rfl (by constructor <;> omega) ?_
  refine g_istore_n (i := 2) (q := 5) dX6_isBlockBusy_4 rfl rfl (by decide) ?_
  refine g_iload_n (i := 2) (q := 6) dX6_isBlockBusy_5 rfl rfl rfl ?_
  refine g_istore_n (i := 3) (q := 7) dX6_isBlockBusy_6 rfl rfl (by decide) ?_
  have e : ((b : Int) * 10) = ((10 * b : Nat) : Int) := by omega
  have h := l_X6_isBlockBusy (Q := fun x T => x = .ok (some (zI (if x_bb S (10 * b) 10 then 1 else 0))) ∧ T = S) hb 10 (10 * b) (by omega) (by omega) ⟨rfl, rfl⟩
  rw [← e] at h
  exact h
def x_win (m : Int) : Prop := m % 100 < 20
theorem s_X6_isInWindow_t {S : zS} {m : Int} (h0 : 0 ≤ m) (h : m % 100 < 20) : z_Fn mX6_isInWindow [zI m] S (some (zI 1)) S := by
  refine z_enter (by decide +kernel) rfl (z_n1 trivial z_n0) (Nat.le_of_ble_eq_true rfl) ?_
  refine g_iload_n (i := 0) (q := 1) dX6_isInWindow_0 rfl rfl rfl ?_
  refine g_bipush (q := 3) dX6_isInWindow_1 rfl ⟨by decide, by decide⟩ (by decide) ?_
  refine g_irem (q := 4) dX6_isInWindow_3 rfl (by omega) (by omega) ?_
  refine g_bipush (q := 6) dX6_isInWindow_4 rfl ⟨by decide, by decide⟩ (by decide) ?_
  refine g_icmp_ge (t := 13) (q := 9) dX6_isInWindow_6 (by decide) rfl (fun h6 => ?_) (fun h6 => ?_)
  · refine g_iconst (q := 14) dX6_isInWindow_13 rfl ⟨by decide, by decide⟩ ?_
    exact g_retz dX6_isInWindow_14 rfl (by omega) (by decide) (by first | exact ⟨rfl, rfl⟩ | (exfalso; omega))
  · refine g_iconst (q := 10) dX6_isInWindow_9 rfl ⟨by decide, by decide⟩ ?_
    refine g_goto (q := 0) (t := 14) dX6_isInWindow_10 (by decide) ?_
    exact g_retz dX6_isInWindow_14 rfl (by omega) (by decide) (by first | exact ⟨rfl, rfl⟩ | (exfalso; omega))
theorem s_X6_isInWindow_f {S : zS} {m : Int} (h0 : 0 ≤ m) (h : ¬ m % 100 < 20) : z_Fn mX6_isInWindow [zI m] S (some (zI 0)) S := by
  refine z_enter (by decide +kernel) rfl (z_n1 trivial z_n0) (Nat.le_of_ble_eq_true rfl) ?_
  refine g_iload_n (i := 0) (q := 1) dX6_isInWindow_0 rfl rfl rfl ?_
  refine g_bipush (q := 3) dX6_isInWindow_1 rfl ⟨by decide, by decide⟩ (by decide) ?_
  refine g_irem (q := 4) dX6_isInWindow_3 rfl (by omega) (by omega) ?_
  refine g_bipush (q := 6) dX6_isInWindow_4 rfl ⟨by decide, by decide⟩ (by decide) ?_
  refine g_icmp_ge (t := 13) (q := 9) dX6_isInWindow_6 (by decide) rfl (fun h6 => ?_) (fun h6 => ?_)
  · refine g_iconst (q := 14) dX6_isInWindow_13 rfl ⟨by decide, by decide⟩ ?_
    exact g_retz dX6_isInWindow_14 rfl (by omega) (by decide) (by first | exact ⟨rfl, rfl⟩ | (exfalso; omega))
  · refine g_iconst (q := 10) dX6_isInWindow_9 rfl ⟨by decide, by decide⟩ ?_
    refine g_goto (q := 0) (t := 14) dX6_isInWindow_10 (by decide) ?_
    exact g_retz dX6_isInWindow_14 rfl (by omega) (by decide) (by first | exact ⟨rfl, rfl⟩ | (exfalso; omega))
def x_rr (S : zS) (c : Nat) (f n t m : Int) : Int :=
  if S.2.1 13 n = -1 then 1 else if S.2.1 13 n = f then 2 else if S.2.1 14 n = t then (if z_on (x_wf S n c) = -1 then (if S.1 0 ≤ S.2.1 16 n then 5 else if m % 100 < 20 then (if x_cwa S m c < 3 then 0 else 7) else 6) else 4) else 3
theorem s_X6_reasonToReject {S : zS} {f n t m : Int} {c : Nat} (hc : S.1 1 = c) (h60 : c ≤ 60) (hn : 0 ≤ n ∧ n < 200) (hm : 0 ≤ m) : z_Fn mX6_reasonToReject [zR 0, zI f, zI n, zI t, zI m] S (some (zI (x_rr S c f n t m))) S := by
  refine z_enter (by decide +kernel) rfl (z_n1 trivial (z_n1 trivial (z_n1 trivial (z_n1 trivial (z_n1 trivial z_n0))))) (Nat.le_of_ble_eq_true rfl) ?_
  refine g_aload_n (i := 0) (q := 1) dX6_reasonToReject_0 rfl rfl rfl ?_
  refine g_getr (q := 4) dX6_reasonToReject_1 rfl fk_X6_23 rfl rfl ?_
  refine g_iload_n (i := 2) (q := 5) dX6_reasonToReject_4 rfl rfl rfl ?_
  by_cases c5 : ¬ (S).2.1 13 n = -1
  · refine g_fnV (as := [zI n]) (q := 8) (u' := 0) dX6_reasonToReject_5 rfl ck_X6_109 rfl rfl rfl (Nat.le_of_ble_eq_true rfl) (by decide) rfl (by decide) (s_X1_isInUse_t (by omega) c5) rfl ?_
    refine g_if_ne (t := 13) (q := 11) dX6_reasonToReject_8 (by decide) rfl (fun h8 => ?_) (fun h8 => (False.elim (by omega)))
    refine g_aload_n (i := 0) (q := 14) dX6_reasonToReject_13 rfl rfl rfl ?_
    refine g_getr (q := 17) dX6_reasonToReject_14 rfl fk_X6_23 rfl rfl ?_
    refine g_getr (q := 20) dX6_reasonToReject_17 rfl fk_X6_129 rfl rfl ?_
    refine g_iload_n (i := 2) (q := 21) dX6_reasonToReject_20 rfl rfl rfl ?_
    refine g_ildv (q := 22) (z := S.2.1 13 n) dX6_reasonToReject_21 rfl ⟨by decide, rfl, rfl⟩ (by omega) (by omega) rfl ?_
    refine g_iload_n (i := 1) (q := 23) dX6_reasonToReject_22 rfl rfl rfl ?_
    refine g_icmp_ne (t := 28) (q := 26) dX6_reasonToReject_23 (by decide) rfl (fun h23 => ?_) (fun h23 => ?_)
    · refine g_aload_n (i := 0) (q := 29) dX6_reasonToReject_28 rfl rfl rfl ?_
      refine g_getr (q := 32) dX6_reasonToReject_29 rfl fk_X6_23 rfl rfl ?_
      refine g_getr (q := 35) dX6_reasonToReject_32 rfl fk_X6_141 rfl rfl ?_
      refine g_iload_n (i := 2) (q := 36) dX6_reasonToReject_35 rfl rfl rfl ?_
      refine g_ildv (q := 37) (z := S.2.1 14 n) dX6_reasonToReject_36 rfl ⟨by decide, rfl, rfl⟩ (by omega) (by omega) rfl ?_
      refine g_iload_n (i := 3) (q := 38) dX6_reasonToReject_37 rfl rfl rfl ?_
      refine g_icmp_eq (t := 43) (q := 41) dX6_reasonToReject_38 (by decide) rfl (fun h38 => ?_) (fun h38 => ?_)
      · refine g_aload_n (i := 0) (q := 44) dX6_reasonToReject_43 rfl rfl rfl ?_
        refine g_getr (q := 47) dX6_reasonToReject_44 rfl fk_X6_30 rfl rfl ?_
        refine g_iload_n (i := 2) (q := 48) dX6_reasonToReject_47 rfl rfl rfl ?_
        refine g_fnV (as := [zI n]) (q := 51) (u' := 0) dX6_reasonToReject_48 rfl ck_X6_259 rfl rfl rfl (Nat.le_of_ble_eq_true rfl) (by decide) rfl (by decide) (s_X4_waitingFor hc h60) rfl ?_
        refine g_iconst (q := 52) dX6_reasonToReject_51 rfl ⟨by decide, by decide⟩ ?_
        refine g_icmp_eq (t := 57) (q := 55) dX6_reasonToReject_52 (by decide) rfl (fun h52 => ?_) (fun h52 => ?_)
        · refine g_aload_n (i := 0) (q := 58) dX6_reasonToReject_57 rfl rfl rfl ?_
          refine g_getr (q := 61) dX6_reasonToReject_58 rfl fk_X6_23 rfl rfl ?_
          refine g_iload_n (i := 2) (q := 62) dX6_reasonToReject_61 rfl rfl rfl ?_
          refine g_aload_n (i := 0) (q := 63) dX6_reasonToReject_62 rfl rfl rfl ?_
          refine g_getv (q := 66) (z := S.1 0) dX6_reasonToReject_63 rfl fk_X6_55 rfl rfl rfl ?_
          by_cases c66 : S.1 0 ≤ (S).2.1 16 n
          · refine g_fnV (as := [zI n, zI (S.1 0)]) (q := 69) (u' := 0) dX6_reasonToReject_66 rfl ck_X6_253 rfl rfl rfl (Nat.le_of_ble_eq_true rfl) (by decide) rfl (by decide) (s_X1_isSilent_t (by omega) c66) rfl ?_
            refine g_if_eq (t := 74) (q := 72) dX6_reasonToReject_69 (by decide) rfl (fun h69 => (False.elim (by omega))) (fun h69 => ?_)
            refine g_iconst (q := 73) dX6_reasonToReject_72 rfl ⟨by decide, by decide⟩ ?_
            exact g_ret dX6_reasonToReject_73 rfl (by decide) (by unfold x_rr; (repeat (first | rw [if_pos (by omega)] | rw [if_neg (by omega)])); exact ⟨rfl, rfl⟩)
          · refine g_fnV (as := [zI n, zI (S.1 0)]) (q := 69) (u' := 0) dX6_reasonToReject_66 rfl ck_X6_253 rfl rfl rfl (Nat.le_of_ble_eq_true rfl) (by decide) rfl (by decide) (s_X1_isSilent_f (by omega) c66) rfl ?_
            refine g_if_eq (t := 74) (q := 72) dX6_reasonToReject_69 (by decide) rfl (fun h69 => ?_) (fun h69 => (False.elim (by omega)))
            refine g_iload (q := 76) dX6_reasonToReject_74 rfl rfl ?_
            by_cases c76 : m % 100 < 20
            · refine g_fnS (as := [zI m]) (q := 79) (u' := 0) dX6_reasonToReject_76 rfl ck_X6_265 rfl rfl (Nat.le_of_ble_eq_true rfl) (by decide) rfl (by decide) (s_X6_isInWindow_t (by omega) c76) rfl ?_
              refine g_if_ne (t := 85) (q := 82) dX6_reasonToReject_79 (by decide) rfl (fun h79 => ?_) (fun h79 => (False.elim (by omega)))
              refine g_aload_n (i := 0) (q := 86) dX6_reasonToReject_85 rfl rfl rfl ?_
              refine g_getr (q := 89) dX6_reasonToReject_86 rfl fk_X6_30 rfl rfl ?_
              refine g_iload (q := 91) dX6_reasonToReject_89 rfl rfl ?_
              refine g_fnV (as := [zI m]) (q := 94) (u' := 0) dX6_reasonToReject_91 rfl ck_X6_268 rfl rfl rfl (Nat.le_of_ble_eq_true rfl) (by decide) rfl (by decide) (s_X4_countWaitingAt hc h60) rfl ?_
              refine g_iconst (q := 95) dX6_reasonToReject_94 rfl ⟨by decide, by decide⟩ ?_
              refine g_icmp_lt (t := 103) (q := 98) dX6_reasonToReject_95 (by decide) rfl (fun h95 => ?_) (fun h95 => ?_)
              · refine g_iconst (q := 104) dX6_reasonToReject_103 rfl ⟨by decide, by decide⟩ ?_
                exact g_ret dX6_reasonToReject_104 rfl (by decide) (by unfold x_rr; (repeat (first | rw [if_pos (by omega)] | rw [if_neg (by omega)])); exact ⟨rfl, rfl⟩)
              · refine g_bipush (q := 100) dX6_reasonToReject_98 rfl ⟨by decide, by decide⟩ (by decide) ?_
                refine g_goto (q := 0) (t := 104) dX6_reasonToReject_100 (by decide) ?_
                exact g_ret dX6_reasonToReject_104 rfl (by decide) (by unfold x_rr; (repeat (first | rw [if_pos (by omega)] | rw [if_neg (by omega)])); exact ⟨rfl, rfl⟩)
            · refine g_fnS (as := [zI m]) (q := 79) (u' := 0) dX6_reasonToReject_76 rfl ck_X6_265 rfl rfl (Nat.le_of_ble_eq_true rfl) (by decide) rfl (by decide) (s_X6_isInWindow_f (by omega) c76) rfl ?_
              refine g_if_ne (t := 85) (q := 82) dX6_reasonToReject_79 (by decide) rfl (fun h79 => (False.elim (by omega))) (fun h79 => ?_)
              refine g_bipush (q := 84) dX6_reasonToReject_82 rfl ⟨by decide, by decide⟩ (by decide) ?_
              exact g_ret dX6_reasonToReject_84 rfl (by decide) (by unfold x_rr; (repeat (first | rw [if_pos (by omega)] | rw [if_neg (by omega)])); exact ⟨rfl, rfl⟩)
        · refine g_iconst (q := 56) dX6_reasonToReject_55 rfl ⟨by decide, by decide⟩ ?_
          exact g_ret dX6_reasonToReject_56 rfl (by decide) (by unfold x_rr; (repeat (first | rw [if_pos (by omega)] | rw [if_neg (by omega)])); exact ⟨rfl, rfl⟩)
      · refine g_iconst (q := 42) dX6_reasonToReject_41 rfl ⟨by decide, by decide⟩ ?_
        exact g_ret dX6_reasonToReject_42 rfl (by decide) (by unfold x_rr; (repeat (first | rw [if_pos (by omega)] | rw [if_neg (by omega)])); exact ⟨rfl, rfl⟩)
    · refine g_iconst (q := 27) dX6_reasonToReject_26 rfl ⟨by decide, by decide⟩ ?_
      exact g_ret dX6_reasonToReject_27 rfl (by decide) (by unfold x_rr; (repeat (first | rw [if_pos (by omega)] | rw [if_neg (by omega)])); exact ⟨rfl, rfl⟩)
  · refine g_fnV (as := [zI n]) (q := 8) (u' := 0) dX6_reasonToReject_5 rfl ck_X6_109 rfl rfl rfl (Nat.le_of_ble_eq_true rfl) (by decide) rfl (by decide) (s_X1_isInUse_f (by omega) (Decidable.not_not.mp c5)) rfl ?_
    refine g_if_ne (t := 13) (q := 11) dX6_reasonToReject_8 (by decide) rfl (fun h8 => (False.elim (by omega))) (fun h8 => ?_)
    refine g_iconst (q := 12) dX6_reasonToReject_11 rfl ⟨by decide, by decide⟩ ?_
    exact g_ret dX6_reasonToReject_12 rfl (by decide) (by unfold x_rr; (repeat (first | rw [if_pos (by omega)] | rw [if_neg (by omega)])); exact ⟨rfl, rfl⟩)
/-- whether an order can be turned back -/
def x_cr (S : zS) (o : Int) : Prop := S.2.1 19 o = 2 ∧ S.1 0 - S.2.1 24 o ≤ 60 ∧ ¬ S.2.1 13 (S.2.1 21 o) = -1 ∧ S.2.1 9 (S.2.1 23 o) = 0 ∧ S.2.1 18 (S.2.1 21 o) = o
theorem s_X6_canReverse_t {S : zS} {o : Int} (ho : 0 ≤ o ∧ o < 60) (hnow : 0 ≤ S.1 0 ∧ S.1 0 ≤ 9999) (hn : 0 ≤ S.2.1 21 o ∧ S.2.1 21 o < 200) (hd : 0 ≤ S.2.1 23 o ∧ S.2.1 23 o < 6) (hdu : 0 ≤ S.2.1 24 o ∧ S.2.1 24 o ≤ 50000) (h : x_cr S o) : z_Fn mX6_canReverse [zR 0, zI o] S (some (zI 1)) S := by
  obtain ⟨h1, h2, h3, h4, h5⟩ := h
  refine z_enter (by decide +kernel) rfl (z_n1 trivial (z_n1 trivial z_n0)) (Nat.le_of_ble_eq_true rfl) ?_
  refine g_aload_n (i := 0) (q := 1) dX6_canReverse_0 rfl rfl rfl ?_
  refine g_getr (q := 4) dX6_canReverse_1 rfl fk_X6_30 rfl rfl ?_
  refine g_getr (q := 7) dX6_canReverse_4 rfl fk_X6_187 rfl rfl ?_
  refine g_iload_n (i := 1) (q := 8) dX6_canReverse_7 rfl rfl rfl ?_
  refine g_ildv (q := 9) (z := S.2.1 19 o) dX6_canReverse_8 rfl ⟨by decide, rfl, rfl⟩ (by omega) (by omega) rfl ?_
  refine g_iconst (q := 10) dX6_canReverse_9 rfl ⟨by decide, by decide⟩ ?_
  refine g_icmp_ne (t := 32) (q := 13) dX6_canReverse_10 (by decide) rfl (fun h10 => ?_) (fun h10 => ?_)
  · refine g_iconst (q := 33) dX6_canReverse_32 rfl ⟨by decide, by decide⟩ ?_
    exact g_retz dX6_canReverse_33 rfl (by omega) (by decide) (by first | exact ⟨rfl, rfl⟩ | (exfalso; omega))
  · refine g_aload_n (i := 0) (q := 14) dX6_canReverse_13 rfl rfl rfl ?_
    refine g_getv (q := 17) (z := S.1 0) dX6_canReverse_14 rfl fk_X6_55 rfl rfl rfl ?_
    refine g_aload_n (i := 0) (q := 18) dX6_canReverse_17 rfl rfl rfl ?_
    refine g_getr (q := 21) dX6_canReverse_18 rfl fk_X6_30 rfl rfl ?_
    refine g_getr (q := 24) dX6_canReverse_21 rfl fk_X6_190 rfl rfl ?_
    refine g_iload_n (i := 1) (q := 25) dX6_canReverse_24 rfl rfl rfl ?_
    refine g_ildv (q := 26) (z := S.2.1 24 o) dX6_canReverse_25 rfl ⟨by decide, rfl, rfl⟩ (by omega) (by omega) rfl ?_
    refine g_isub (q := 27) dX6_canReverse_26 rfl (by constructor <;> omega) ?_
    refine g_bipush (q := 29) dX6_canReverse_27 rfl ⟨by decide, by decide⟩ (by decide) ?_
    refine g_icmp_le (t := 34) (q := 32) dX6_canReverse_29 (by decide) rfl (fun h29 => ?_) (fun h29 => ?_)
    · refine g_aload_n (i := 0) (q := 35) dX6_canReverse_34 rfl rfl rfl ?_
      refine g_getr (q := 38) dX6_canReverse_35 rfl fk_X6_30 rfl rfl ?_
      refine g_getr (q := 41) dX6_canReverse_38 rfl fk_X6_207 rfl rfl ?_
      refine g_iload_n (i := 1) (q := 42) dX6_canReverse_41 rfl rfl rfl ?_
      refine g_ildv (q := 43) (z := S.2.1 21 o) dX6_canReverse_42 rfl ⟨by decide, rfl, rfl⟩ (by omega) (by omega) rfl ?_
      refine g_istore_n (i := 2) (q := 44) dX6_canReverse_43 rfl rfl (by decide) ?_
      refine g_aload_n (i := 0) (q := 45) dX6_canReverse_44 rfl rfl rfl ?_
      refine g_getr (q := 48) dX6_canReverse_45 rfl fk_X6_30 rfl rfl ?_
      refine g_getr (q := 51) dX6_canReverse_48 rfl fk_X6_204 rfl rfl ?_
      refine g_iload_n (i := 1) (q := 52) dX6_canReverse_51 rfl rfl rfl ?_
      refine g_ildv (q := 53) (z := S.2.1 23 o) dX6_canReverse_52 rfl ⟨by decide, rfl, rfl⟩ (by omega) (by omega) rfl ?_
      refine g_istore_n (i := 3) (q := 54) dX6_canReverse_53 rfl rfl (by decide) ?_
      refine g_aload_n (i := 0) (q := 55) dX6_canReverse_54 rfl rfl rfl ?_
      refine g_getr (q := 58) dX6_canReverse_55 rfl fk_X6_23 rfl rfl ?_
      refine g_iload_n (i := 2) (q := 59) dX6_canReverse_58 rfl rfl rfl ?_
      refine g_fnV (as := [zI (S.2.1 21 o)]) (q := 62) (u' := 0) dX6_canReverse_59 rfl ck_X6_109 rfl rfl rfl (Nat.le_of_ble_eq_true rfl) (by decide) rfl (by decide) (s_X1_isInUse_t (by omega) h3) rfl ?_
      refine g_if_eq (t := 101) (q := 65) dX6_canReverse_62 (by decide) rfl (fun h62 => (False.elim (by omega))) (fun h62 => ?_)
      refine g_iload_n (i := 3) (q := 66) dX6_canReverse_65 rfl rfl rfl ?_
      refine g_fnS (as := [zI (S.2.1 23 o)]) (q := 69) (u' := 0) dX6_canReverse_66 rfl ck_X6_69 rfl rfl (Nat.le_of_ble_eq_true rfl) (by decide) rfl (by decide) (s_X6_isFirm_t (by omega)) rfl ?_
      refine g_if_eq (t := 101) (q := 72) dX6_canReverse_69 (by decide) rfl (fun h69 => (False.elim (by omega))) (fun h69 => ?_)
      refine g_aload_n (i := 0) (q := 73) dX6_canReverse_72 rfl rfl rfl ?_
      refine g_getr (q := 76) dX6_canReverse_73 rfl fk_X6_16 rfl rfl ?_
      refine g_getr (q := 79) dX6_canReverse_76 rfl fk_X6_79 rfl rfl ?_
      refine g_iload_n (i := 3) (q := 80) dX6_canReverse_79 rfl rfl rfl ?_
      refine g_zldv (q := 81) (z := S.2.1 9 (S.2.1 23 o)) dX6_canReverse_80 rfl ⟨by decide, rfl, rfl⟩ (by omega) (by omega) rfl ?_
      refine g_if_ne (t := 101) (q := 84) dX6_canReverse_81 (by decide) rfl (fun h81 => ?_) (fun h81 => ?_)
      · refine g_iconst (q := 102) dX6_canReverse_101 rfl ⟨by decide, by decide⟩ ?_
        exact g_retz dX6_canReverse_102 rfl (by omega) (by decide) (by first | exact ⟨rfl, rfl⟩ | (exfalso; omega))
      · refine g_aload_n (i := 0) (q := 85) dX6_canReverse_84 rfl rfl rfl ?_
        refine g_getr (q := 88) dX6_canReverse_85 rfl fk_X6_23 rfl rfl ?_
        refine g_getr (q := 91) dX6_canReverse_88 rfl fk_X6_309 rfl rfl ?_
        refine g_iload_n (i := 2) (q := 92) dX6_canReverse_91 rfl rfl rfl ?_
        refine g_ildv (q := 93) (z := S.2.1 18 (S.2.1 21 o)) dX6_canReverse_92 rfl ⟨by decide, rfl, rfl⟩ (by omega) (by omega) rfl ?_
        refine g_iload_n (i := 1) (q := 94) dX6_canReverse_93 rfl rfl rfl ?_
        refine g_icmp_ne (t := 101) (q := 97) dX6_canReverse_94 (by decide) rfl (fun h94 => ?_) (fun h94 => ?_)
        · refine g_iconst (q := 102) dX6_canReverse_101 rfl ⟨by decide, by decide⟩ ?_
          exact g_retz dX6_canReverse_102 rfl (by omega) (by decide) (by first | exact ⟨rfl, rfl⟩ | (exfalso; omega))
        · refine g_iconst (q := 98) dX6_canReverse_97 rfl ⟨by decide, by decide⟩ ?_
          refine g_goto (q := 0) (t := 102) dX6_canReverse_98 (by decide) ?_
          exact g_retz dX6_canReverse_102 rfl (by omega) (by decide) (by first | exact ⟨rfl, rfl⟩ | (exfalso; omega))
    · refine g_iconst (q := 33) dX6_canReverse_32 rfl ⟨by decide, by decide⟩ ?_
      exact g_retz dX6_canReverse_33 rfl (by omega) (by decide) (by first | exact ⟨rfl, rfl⟩ | (exfalso; omega))
theorem s_X6_canReverse_f {S : zS} {o : Int} (ho : 0 ≤ o ∧ o < 60) (hnow : 0 ≤ S.1 0 ∧ S.1 0 ≤ 9999) (hn : 0 ≤ S.2.1 21 o ∧ S.2.1 21 o < 200) (hd : S.2.1 19 o = 2 → 0 ≤ S.2.1 23 o ∧ S.2.1 23 o < 6) (hdu : 0 ≤ S.2.1 24 o ∧ S.2.1 24 o ≤ 50000) (h : ¬ x_cr S o) : z_Fn mX6_canReverse [zR 0, zI o] S (some (zI 0)) S := by
  refine z_enter (by decide +kernel) rfl (z_n1 trivial (z_n1 trivial z_n0)) (Nat.le_of_ble_eq_true rfl) ?_
  refine g_aload_n (i := 0) (q := 1) dX6_canReverse_0 rfl rfl rfl ?_
  refine g_getr (q := 4) dX6_canReverse_1 rfl fk_X6_30 rfl rfl ?_
  refine g_getr (q := 7) dX6_canReverse_4 rfl fk_X6_187 rfl rfl ?_
  refine g_iload_n (i := 1) (q := 8) dX6_canReverse_7 rfl rfl rfl ?_
  refine g_ildv (q := 9) (z := S.2.1 19 o) dX6_canReverse_8 rfl ⟨by decide, rfl, rfl⟩ (by omega) (by omega) rfl ?_
  refine g_iconst (q := 10) dX6_canReverse_9 rfl ⟨by decide, by decide⟩ ?_
  refine g_icmp_ne (t := 32) (q := 13) dX6_canReverse_10 (by decide) rfl (fun h10 => ?_) (fun h10 => ?_)
  · refine g_iconst (q := 33) dX6_canReverse_32 rfl ⟨by decide, by decide⟩ ?_
    exact g_retz dX6_canReverse_33 rfl (by omega) (by decide) (by first | exact ⟨rfl, rfl⟩ | exact absurd ⟨by omega, by omega, by assumption, by omega, by omega⟩ h)
  · refine g_aload_n (i := 0) (q := 14) dX6_canReverse_13 rfl rfl rfl ?_
    refine g_getv (q := 17) (z := S.1 0) dX6_canReverse_14 rfl fk_X6_55 rfl rfl rfl ?_
    refine g_aload_n (i := 0) (q := 18) dX6_canReverse_17 rfl rfl rfl ?_
    refine g_getr (q := 21) dX6_canReverse_18 rfl fk_X6_30 rfl rfl ?_
    refine g_getr (q := 24) dX6_canReverse_21 rfl fk_X6_190 rfl rfl ?_
    refine g_iload_n (i := 1) (q := 25) dX6_canReverse_24 rfl rfl rfl ?_
    refine g_ildv (q := 26) (z := S.2.1 24 o) dX6_canReverse_25 rfl ⟨by decide, rfl, rfl⟩ (by omega) (by omega) rfl ?_
    refine g_isub (q := 27) dX6_canReverse_26 rfl (by constructor <;> omega) ?_
    refine g_bipush (q := 29) dX6_canReverse_27 rfl ⟨by decide, by decide⟩ (by decide) ?_
    refine g_icmp_le (t := 34) (q := 32) dX6_canReverse_29 (by decide) rfl (fun h29 => ?_) (fun h29 => ?_)
    · have hd2 := hd (by omega)
      refine g_aload_n (i := 0) (q := 35) dX6_canReverse_34 rfl rfl rfl ?_
      refine g_getr (q := 38) dX6_canReverse_35 rfl fk_X6_30 rfl rfl ?_
      refine g_getr (q := 41) dX6_canReverse_38 rfl fk_X6_207 rfl rfl ?_
      refine g_iload_n (i := 1) (q := 42) dX6_canReverse_41 rfl rfl rfl ?_
      refine g_ildv (q := 43) (z := S.2.1 21 o) dX6_canReverse_42 rfl ⟨by decide, rfl, rfl⟩ (by omega) (by omega) rfl ?_
      refine g_istore_n (i := 2) (q := 44) dX6_canReverse_43 rfl rfl (by decide) ?_
      refine g_aload_n (i := 0) (q := 45) dX6_canReverse_44 rfl rfl rfl ?_
      refine g_getr (q := 48) dX6_canReverse_45 rfl fk_X6_30 rfl rfl ?_
      refine g_getr (q := 51) dX6_canReverse_48 rfl fk_X6_204 rfl rfl ?_
      refine g_iload_n (i := 1) (q := 52) dX6_canReverse_51 rfl rfl rfl ?_
      refine g_ildv (q := 53) (z := S.2.1 23 o) dX6_canReverse_52 rfl ⟨by decide, rfl, rfl⟩ (by omega) (by omega) rfl ?_
      refine g_istore_n (i := 3) (q := 54) dX6_canReverse_53 rfl rfl (by decide) ?_
      refine g_aload_n (i := 0) (q := 55) dX6_canReverse_54 rfl rfl rfl ?_
      refine g_getr (q := 58) dX6_canReverse_55 rfl fk_X6_23 rfl rfl ?_
      refine g_iload_n (i := 2) (q := 59) dX6_canReverse_58 rfl rfl rfl ?_
      by_cases c59 : ¬ (S).2.1 13 (S.2.1 21 o) = -1
      · refine g_fnV (as := [zI (S.2.1 21 o)]) (q := 62) (u' := 0) dX6_canReverse_59 rfl ck_X6_109 rfl rfl rfl (Nat.le_of_ble_eq_true rfl) (by decide) rfl (by decide) (s_X1_isInUse_t (by omega) c59) rfl ?_
        refine g_if_eq (t := 101) (q := 65) dX6_canReverse_62 (by decide) rfl (fun h62 => (False.elim (by omega))) (fun h62 => ?_)
        refine g_iload_n (i := 3) (q := 66) dX6_canReverse_65 rfl rfl rfl ?_
        by_cases c66 : 0 ≤ S.2.1 23 o ∧ S.2.1 23 o < 6
        · refine g_fnS (as := [zI (S.2.1 23 o)]) (q := 69) (u' := 0) dX6_canReverse_66 rfl ck_X6_69 rfl rfl (Nat.le_of_ble_eq_true rfl) (by decide) rfl (by decide) (s_X6_isFirm_t c66) rfl ?_
          refine g_if_eq (t := 101) (q := 72) dX6_canReverse_69 (by decide) rfl (fun h69 => (False.elim (by omega))) (fun h69 => ?_)
          refine g_aload_n (i := 0) (q := 73) dX6_canReverse_72 rfl rfl rfl ?_
          refine g_getr (q := 76) dX6_canReverse_73 rfl fk_X6_16 rfl rfl ?_
          refine g_getr (q := 79) dX6_canReverse_76 rfl fk_X6_79 rfl rfl ?_
          refine g_iload_n (i := 3) (q := 80) dX6_canReverse_79 rfl rfl rfl ?_
          refine g_zldv (q := 81) (z := S.2.1 9 (S.2.1 23 o)) dX6_canReverse_80 rfl ⟨by decide, rfl, rfl⟩ (by omega) (by omega) rfl ?_
          refine g_if_ne (t := 101) (q := 84) dX6_canReverse_81 (by decide) rfl (fun h81 => ?_) (fun h81 => ?_)
          · refine g_iconst (q := 102) dX6_canReverse_101 rfl ⟨by decide, by decide⟩ ?_
            exact g_retz dX6_canReverse_102 rfl (by omega) (by decide) (by first | exact ⟨rfl, rfl⟩ | exact absurd ⟨by omega, by omega, by assumption, by omega, by omega⟩ h)
          · refine g_aload_n (i := 0) (q := 85) dX6_canReverse_84 rfl rfl rfl ?_
            refine g_getr (q := 88) dX6_canReverse_85 rfl fk_X6_23 rfl rfl ?_
            refine g_getr (q := 91) dX6_canReverse_88 rfl fk_X6_309 rfl rfl ?_
            refine g_iload_n (i := 2) (q := 92) dX6_canReverse_91 rfl rfl rfl ?_
            refine g_ildv (q := 93) (z := S.2.1 18 (S.2.1 21 o)) dX6_canReverse_92 rfl ⟨by decide, rfl, rfl⟩ (by omega) (by omega) rfl ?_
            refine g_iload_n (i := 1) (q := 94) dX6_canReverse_93 rfl rfl rfl ?_
            refine g_icmp_ne (t := 101) (q := 97) dX6_canReverse_94 (by decide) rfl (fun h94 => ?_) (fun h94 => ?_)
            · refine g_iconst (q := 102) dX6_canReverse_101 rfl ⟨by decide, by decide⟩ ?_
              exact g_retz dX6_canReverse_102 rfl (by omega) (by decide) (by first | exact ⟨rfl, rfl⟩ | exact absurd ⟨by omega, by omega, by assumption, by omega, by omega⟩ h)
            · refine g_iconst (q := 98) dX6_canReverse_97 rfl ⟨by decide, by decide⟩ ?_
              refine g_goto (q := 0) (t := 102) dX6_canReverse_98 (by decide) ?_
              exact g_retz dX6_canReverse_102 rfl (by omega) (by decide) (by first | exact ⟨rfl, rfl⟩ | exact absurd ⟨by omega, by omega, by assumption, by omega, by omega⟩ h)
        · refine g_fnS (as := [zI (S.2.1 23 o)]) (q := 69) (u' := 0) dX6_canReverse_66 rfl ck_X6_69 rfl rfl (Nat.le_of_ble_eq_true rfl) (by decide) rfl (by decide) (s_X6_isFirm_f c66) rfl ?_
          refine g_if_eq (t := 101) (q := 72) dX6_canReverse_69 (by decide) rfl (fun h69 => ?_) (fun h69 => (False.elim (by omega)))
          refine g_iconst (q := 102) dX6_canReverse_101 rfl ⟨by decide, by decide⟩ ?_
          exact g_retz dX6_canReverse_102 rfl (by omega) (by decide) (by first | exact ⟨rfl, rfl⟩ | exact absurd ⟨by omega, by omega, by assumption, by omega, by omega⟩ h)
      · refine g_fnV (as := [zI (S.2.1 21 o)]) (q := 62) (u' := 0) dX6_canReverse_59 rfl ck_X6_109 rfl rfl rfl (Nat.le_of_ble_eq_true rfl) (by decide) rfl (by decide) (s_X1_isInUse_f (by omega) (Decidable.not_not.mp c59)) rfl ?_
        refine g_if_eq (t := 101) (q := 65) dX6_canReverse_62 (by decide) rfl (fun h62 => ?_) (fun h62 => (False.elim (by omega)))
        refine g_iconst (q := 102) dX6_canReverse_101 rfl ⟨by decide, by decide⟩ ?_
        exact g_retz dX6_canReverse_102 rfl (by omega) (by decide) (by first | exact ⟨rfl, rfl⟩ | exact absurd ⟨by omega, by omega, by assumption, by omega, by omega⟩ h)
    · refine g_iconst (q := 33) dX6_canReverse_32 rfl ⟨by decide, by decide⟩ ?_
      exact g_retz dX6_canReverse_33 rfl (by omega) (by decide) (by first | exact ⟨rfl, rfl⟩ | exact absurd ⟨by omega, by omega, by assumption, by omega, by omega⟩ h)
/-- another firm serves a number -/
def x_mv (S : zS) (n f : Int) : zS := x_chg (x_note (z_sA S 13 n f) 0 n f) (S.1 0) n (if S.2.1 8 (n / 10) = f then 6 else f)
theorem s_X6_moveTo {S : zS} {n f : Int} (hn : 0 ≤ n ∧ n < 200) (h0 : 0 ≤ S.1 2 ∧ S.1 2 < 600) (h1 : 0 ≤ S.1 3 ∧ S.1 3 < 572) : z_Fn mX6_moveTo [zR 0, zI n, zI f] S none (x_mv S n f) := by
  refine z_enter (by decide +kernel) rfl (z_n1 trivial (z_n1 trivial (z_n1 trivial z_n0))) (Nat.le_of_ble_eq_true rfl) ?_
  unfold x_mv
  by_cases hh : S.2.1 8 (n / 10) = f
  · rw [if_pos hh]
    refine g_aload_n (i := 0) (q := 1) dX6_moveTo_0 rfl rfl rfl ?_
    refine g_getr (q := 4) dX6_moveTo_1 rfl fk_X6_23 rfl rfl ?_
    refine g_getr (q := 7) dX6_moveTo_4 rfl fk_X6_129 rfl rfl ?_
    refine g_iload_n (i := 1) (q := 8) dX6_moveTo_7 rfl rfl rfl ?_
    refine g_iload_n (i := 2) (q := 9) dX6_moveTo_8 rfl rfl rfl ?_
    refine g_iast (q := 10) dX6_moveTo_9 rfl ⟨by decide, rfl, rfl⟩ (by omega) (by omega) ?_
    refine g_aload_n (i := 0) (q := 11) dX6_moveTo_10 rfl rfl rfl ?_
    refine g_getr (q := 14) dX6_moveTo_11 rfl fk_X6_44 rfl rfl ?_
    refine g_iload_n (i := 1) (q := 15) dX6_moveTo_14 rfl rfl rfl ?_
    refine g_iload_n (i := 2) (q := 16) dX6_moveTo_15 rfl rfl rfl ?_
    refine g_fnV (as := [zI n, zI f]) (q := 19) (u' := 0) dX6_moveTo_16 rfl ck_X6_122 rfl rfl rfl (Nat.le_of_ble_eq_true rfl) (by decide) rfl (by decide) (s_X3_serves h1.1 h1.2) rfl ?_
    refine g_aload_n (i := 0) (q := 20) dX6_moveTo_19 rfl rfl rfl ?_
    refine g_getr (q := 23) dX6_moveTo_20 rfl fk_X6_37 rfl rfl ?_
    refine g_aload_n (i := 0) (q := 24) dX6_moveTo_23 rfl rfl rfl ?_
    refine g_getv (q := 27) (z := (x_note (z_sA S 13 n f) 0 n f).1 0) dX6_moveTo_24 rfl fk_X6_55 rfl rfl rfl ?_
    refine g_iload_n (i := 1) (q := 28) dX6_moveTo_27 rfl rfl rfl ?_
    refine g_iload_n (i := 2) (q := 29) dX6_moveTo_28 rfl rfl rfl ?_
    refine g_aload_n (i := 0) (q := 30) dX6_moveTo_29 rfl rfl rfl ?_
    refine g_iload_n (i := 1) (q := 31) dX6_moveTo_30 rfl rfl rfl ?_
    refine g_fnV (as := [zI n]) (q := 34) (u' := 0) dX6_moveTo_31 rfl ck_X6_106 rfl rfl rfl (Nat.le_of_ble_eq_true rfl) (by decide) rfl (by decide) (s_X6_holderOf hn) rfl ?_
    refine g_top (z := S.2.1 8 (n / 10)) rfl ?_
    refine g_icmp_ne (t := 42) (q := 37) dX6_moveTo_34 (by decide) rfl (fun h34 => (False.elim (by omega))) (fun h34 => ?_)
    refine g_bipush (q := 39) dX6_moveTo_37 rfl ⟨by decide, by decide⟩ (by decide) ?_
    refine g_goto (q := 0) (t := 43) dX6_moveTo_39 (by decide) ?_
    refine g_fnV (as := [zI ((x_note (z_sA S 13 n f) 0 n f).1 0), zI n, zI 6]) (q := 46) (u' := 0) dX6_moveTo_43 rfl ck_X6_138 rfl rfl rfl (Nat.le_of_ble_eq_true rfl) (by decide) rfl (by decide) (s_X0_add h0.1 h0.2) rfl ?_
    exact g_retv dX6_moveTo_46 rfl (by decide) (by first | exact ⟨rfl, rfl⟩ | (exfalso; omega))
  · rw [if_neg hh]
    refine g_aload_n (i := 0) (q := 1) dX6_moveTo_0 rfl rfl rfl ?_
    refine g_getr (q := 4) dX6_moveTo_1 rfl fk_X6_23 rfl rfl ?_
    refine g_getr (q := 7) dX6_moveTo_4 rfl fk_X6_129 rfl rfl ?_
    refine g_iload_n (i := 1) (q := 8) dX6_moveTo_7 rfl rfl rfl ?_
    refine g_iload_n (i := 2) (q := 9) dX6_moveTo_8 rfl rfl rfl ?_
    refine g_iast (q := 10) dX6_moveTo_9 rfl ⟨by decide, rfl, rfl⟩ (by omega) (by omega) ?_
    refine g_aload_n (i := 0) (q := 11) dX6_moveTo_10 rfl rfl rfl ?_
    refine g_getr (q := 14) dX6_moveTo_11 rfl fk_X6_44 rfl rfl ?_
    refine g_iload_n (i := 1) (q := 15) dX6_moveTo_14 rfl rfl rfl ?_
    refine g_iload_n (i := 2) (q := 16) dX6_moveTo_15 rfl rfl rfl ?_
    refine g_fnV (as := [zI n, zI f]) (q := 19) (u' := 0) dX6_moveTo_16 rfl ck_X6_122 rfl rfl rfl (Nat.le_of_ble_eq_true rfl) (by decide) rfl (by decide) (s_X3_serves h1.1 h1.2) rfl ?_
    refine g_aload_n (i := 0) (q := 20) dX6_moveTo_19 rfl rfl rfl ?_
    refine g_getr (q := 23) dX6_moveTo_20 rfl fk_X6_37 rfl rfl ?_
    refine g_aload_n (i := 0) (q := 24) dX6_moveTo_23 rfl rfl rfl ?_
    refine g_getv (q := 27) (z := (x_note (z_sA S 13 n f) 0 n f).1 0) dX6_moveTo_24 rfl fk_X6_55 rfl rfl rfl ?_
    refine g_iload_n (i := 1) (q := 28) dX6_moveTo_27 rfl rfl rfl ?_
    refine g_iload_n (i := 2) (q := 29) dX6_moveTo_28 rfl rfl rfl ?_
    refine g_aload_n (i := 0) (q := 30) dX6_moveTo_29 rfl rfl rfl ?_
    refine g_iload_n (i := 1) (q := 31) dX6_moveTo_30 rfl rfl rfl ?_
    refine g_fnV (as := [zI n]) (q := 34) (u' := 0) dX6_moveTo_31 rfl ck_X6_106 rfl rfl rfl (Nat.le_of_ble_eq_true rfl) (by decide) rfl (by decide) (s_X6_holderOf hn) rfl ?_
    refine g_top (z := S.2.1 8 (n / 10)) rfl ?_
    refine g_icmp_ne (t := 42) (q := 37) dX6_moveTo_34 (by decide) rfl (fun h34 => ?_) (fun h34 => (False.elim (by omega)))
    refine g_iload_n (i := 2) (q := 43) dX6_moveTo_42 rfl rfl rfl ?_
    refine g_fnV (as := [zI ((x_note (z_sA S 13 n f) 0 n f).1 0), zI n, zI f]) (q := 46) (u' := 0) dX6_moveTo_43 rfl ck_X6_138 rfl rfl rfl (Nat.le_of_ble_eq_true rfl) (by decide) rfl (by decide) (s_X0_add h0.1 h0.2) rfl ?_
    exact g_retv dX6_moveTo_46 rfl (by decide) (by first | exact ⟨rfl, rfl⟩ | (exfalso; omega))
/-- where a number is by a firm's table -/
def x_pbt (S : zS) (f n : Int) : Int := if S.2.1 8 (n / 10) = -1 ∨ S.2.1 (30 + f.toNat) n = 6 then S.2.1 8 (n / 10) else S.2.1 (30 + f.toNat) n
theorem s_X6_placeByTable {S : zS} {f n : Int} (hf : 0 ≤ f ∧ f < 6) (hn : 0 ≤ n ∧ n < 200) : z_Fn mX6_placeByTable [zR 0, zI f, zI n] S (some (zI (x_pbt S f n))) S := by
  refine z_enter (by decide +kernel) rfl (z_n1 trivial (z_n1 trivial (z_n1 trivial z_n0))) (Nat.le_of_ble_eq_true rfl) ?_
  refine g_aload_n (i := 0) (q := 1) dX6_placeByTable_0 rfl rfl rfl ?_
  refine g_iload_n (i := 2) (q := 2) dX6_placeByTable_1 rfl rfl rfl ?_
  refine g_fnV (as := [zI n]) (q := 5) (u' := 0) dX6_placeByTable_2 rfl ck_X6_106 rfl rfl rfl (Nat.le_of_ble_eq_true rfl) (by decide) rfl (by decide) (s_X6_holderOf (by omega)) rfl ?_
  refine g_istore_n (i := 3) (q := 6) dX6_placeByTable_5 rfl rfl (by decide) ?_
  refine g_aload_n (i := 0) (q := 7) dX6_placeByTable_6 rfl rfl rfl ?_
  refine g_getr (q := 10) dX6_placeByTable_7 rfl fk_X6_37 rfl rfl ?_
  refine g_getr (q := 13) dX6_placeByTable_10 rfl fk_X6_325 rfl rfl ?_
  refine g_iload_n (i := 1) (q := 14) dX6_placeByTable_13 rfl rfl rfl ?_
  refine g_aald (q := 15) dX6_placeByTable_14 rfl (by omega) (by omega) ?_
  refine g_iload_n (i := 2) (q := 16) dX6_placeByTable_15 rfl rfl rfl ?_
  refine g_ildv (q := 17) (z := S.2.1 (30 + f.toNat) n) dX6_placeByTable_16 rfl (z_row (by omega) (by omega)) (by omega) (by omega) rfl ?_
  refine g_istore (q := 19) dX6_placeByTable_17 rfl (by decide) ?_
  refine g_iload_n (i := 3) (q := 20) dX6_placeByTable_19 rfl rfl rfl ?_
  refine g_iconst (q := 21) dX6_placeByTable_20 rfl ⟨by decide, by decide⟩ ?_
  refine g_icmp_eq (t := 31) (q := 24) dX6_placeByTable_21 (by decide) rfl (fun h21 => ?_) (fun h21 => ?_)
  · refine g_iload_n (i := 3) (q := 32) dX6_placeByTable_31 rfl rfl rfl ?_
    refine g_goto (q := 0) (t := 37) dX6_placeByTable_32 (by decide) ?_
    exact g_ret dX6_placeByTable_37 rfl (by decide) ⟨by unfold x_pbt; first | rw [if_pos (by omega)] | rw [if_neg (by omega)], rfl⟩
  · refine g_iload (q := 26) dX6_placeByTable_24 rfl rfl ?_
    refine g_bipush (q := 28) dX6_placeByTable_26 rfl ⟨by decide, by decide⟩ (by decide) ?_
    refine g_icmp_ne (t := 35) (q := 31) dX6_placeByTable_28 (by decide) rfl (fun h28 => ?_) (fun h28 => ?_)
    · refine g_iload (q := 37) dX6_placeByTable_35 rfl rfl ?_
      exact g_ret dX6_placeByTable_37 rfl (by decide) ⟨by unfold x_pbt; first | rw [if_pos (by omega)] | rw [if_neg (by omega)], rfl⟩
    · refine g_iload_n (i := 3) (q := 32) dX6_placeByTable_31 rfl rfl rfl ?_
      refine g_goto (q := 0) (t := 37) dX6_placeByTable_32 (by decide) ?_
      exact g_ret dX6_placeByTable_37 rfl (by decide) ⟨by unfold x_pbt; first | rw [if_pos (by omega)] | rw [if_neg (by omega)], rfl⟩
