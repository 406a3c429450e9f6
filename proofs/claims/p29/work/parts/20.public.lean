/-! ===== the class's public calls: what they answer, what they leave ===== -/
abbrev zO : Type := Except String (Option zV) × zS
abbrev z_Out (M : zM) (as : List zV) (S : zS) (o : zO) : Prop := z_Sp M as S (fun x T => x = o.1 ∧ T = o.2)
abbrev zI? (z : Int) : Except String (Option zV) := .ok (some (zI z))
def o_give (S : zS) (b f : Int) : zO := if ¬ ((0 ≤ b ∧ b < 20) ∧ (0 ≤ f ∧ f < 6)) then (.error xI, S) else if ¬ S.2.1 8 b = -1 ∨ ¬ S.2.1 9 f = 0 then (.error xS, S) else (zI? (x_cb (z_sA S 8 b f) f 20), z_sA S 8 b f)
theorem c_give {S : zS} {b f : Int} : z_Out mX6_give [zR 0, zI b, zI f] S (o_give S b f) := by
  refine z_enter (by decide +kernel) rfl (z_n1 trivial (z_n1 trivial (z_n1 trivial z_n0))) (Nat.le_of_ble_eq_true rfl) ?_
  refine g_iload_n (i := 1) (q := 1) dX6_give_0 rfl rfl rfl ?_
  by_cases c1 : 0 ≤ b ∧ b < 20
  · refine g_fnS (as := [zI b]) (q := 4) (u' := 0) dX6_give_1 rfl ck_X6_65 rfl rfl (Nat.le_of_ble_eq_true rfl) (by decide) rfl (by decide) (s_X6_isBlock_t c1) rfl ?_
    refine g_if_eq (t := 14) (q := 7) dX6_give_4 (by decide) rfl (fun h4 => (False.elim (by omega))) (fun h4 => ?_)
    refine g_iload_n (i := 2) (q := 8) dX6_give_7 rfl rfl rfl ?_
    by_cases c8 : 0 ≤ f ∧ f < 6
    · refine g_fnS (as := [zI f]) (q := 11) (u' := 0) dX6_give_8 rfl ck_X6_69 rfl rfl (Nat.le_of_ble_eq_true rfl) (by decide) rfl (by decide) (s_X6_isFirm_t c8) rfl ?_
      refine g_if_ne (t := 24) (q := 14) dX6_give_11 (by decide) rfl (fun h11 => ?_) (fun h11 => (False.elim (by omega)))
      refine g_aload_n (i := 0) (q := 25) dX6_give_24 rfl rfl rfl ?_
      refine g_getr (q := 28) dX6_give_25 rfl fk_X6_9 rfl rfl ?_
      refine g_iload_n (i := 1) (q := 29) dX6_give_28 rfl rfl rfl ?_
      refine g_ildv (q := 30) (z := S.2.1 8 b) dX6_give_29 rfl ⟨by decide, rfl, rfl⟩ (by omega) (by omega) rfl ?_
      refine g_iconst (q := 31) dX6_give_30 rfl ⟨by decide, by decide⟩ ?_
      refine g_icmp_ne (t := 46) (q := 34) dX6_give_31 (by decide) rfl (fun h31 => ?_) (fun h31 => ?_)
      · exact g_throw (text := "the block is given, or the firm is gone") rfl rfl z_tk_S (by decide +kernel) dX6_give_46 dX6_give_49 dX6_give_50 dX6_give_52 dX6_give_55 (by decide) (by decide) (by decide) (by unfold o_give; (repeat (first | rw [if_pos (by omega)] | rw [if_neg (by omega)])); exact ⟨rfl, rfl⟩)
      · refine g_aload_n (i := 0) (q := 35) dX6_give_34 rfl rfl rfl ?_
        refine g_getr (q := 38) dX6_give_35 rfl fk_X6_16 rfl rfl ?_
        refine g_getr (q := 41) dX6_give_38 rfl fk_X6_79 rfl rfl ?_
        refine g_iload_n (i := 2) (q := 42) dX6_give_41 rfl rfl rfl ?_
        refine g_zldv (q := 43) (z := S.2.1 9 f) dX6_give_42 rfl ⟨by decide, rfl, rfl⟩ (by omega) (by omega) rfl ?_
        refine g_if_eq (t := 56) (q := 46) dX6_give_43 (by decide) rfl (fun h43 => ?_) (fun h43 => ?_)
        · refine g_aload_n (i := 0) (q := 57) dX6_give_56 rfl rfl rfl ?_
          refine g_getr (q := 60) dX6_give_57 rfl fk_X6_9 rfl rfl ?_
          refine g_iload_n (i := 1) (q := 61) dX6_give_60 rfl rfl rfl ?_
          refine g_iload_n (i := 2) (q := 62) dX6_give_61 rfl rfl rfl ?_
          refine g_iast (q := 63) dX6_give_62 rfl ⟨by decide, rfl, rfl⟩ (by omega) (by omega) ?_
          refine g_aload_n (i := 0) (q := 64) dX6_give_63 rfl rfl rfl ?_
          refine g_iload_n (i := 2) (q := 65) dX6_give_64 rfl rfl rfl ?_
          refine g_fnV (as := [zI f]) (q := 68) (u' := 0) dX6_give_65 rfl ck_X6_88 rfl rfl rfl (Nat.le_of_ble_eq_true rfl) (by decide) rfl (by decide) (s_X6_countBlocksOf) rfl ?_
          exact g_ret dX6_give_68 rfl (by decide) (by unfold o_give; (repeat (first | rw [if_pos (by omega)] | rw [if_neg (by omega)])); exact ⟨rfl, rfl⟩)
        · exact g_throw (text := "the block is given, or the firm is gone") rfl rfl z_tk_S (by decide +kernel) dX6_give_46 dX6_give_49 dX6_give_50 dX6_give_52 dX6_give_55 (by decide) (by decide) (by decide) (by unfold o_give; (repeat (first | rw [if_pos (by omega)] | rw [if_neg (by omega)])); exact ⟨rfl, rfl⟩)
    · refine g_fnS (as := [zI f]) (q := 11) (u' := 0) dX6_give_8 rfl ck_X6_69 rfl rfl (Nat.le_of_ble_eq_true rfl) (by decide) rfl (by decide) (s_X6_isFirm_f c8) rfl ?_
      refine g_if_ne (t := 24) (q := 14) dX6_give_11 (by decide) rfl (fun h11 => (False.elim (by omega))) (fun h11 => ?_)
      exact g_throw (text := "no such block or firm") rfl rfl z_tk_I (by decide +kernel) dX6_give_14 dX6_give_17 dX6_give_18 dX6_give_20 dX6_give_23 (by decide) (by decide) (by decide) (by unfold o_give; (repeat (first | rw [if_pos (by omega)] | rw [if_neg (by omega)])); exact ⟨rfl, rfl⟩)
  · refine g_fnS (as := [zI b]) (q := 4) (u' := 0) dX6_give_1 rfl ck_X6_65 rfl rfl (Nat.le_of_ble_eq_true rfl) (by decide) rfl (by decide) (s_X6_isBlock_f c1) rfl ?_
    refine g_if_eq (t := 14) (q := 7) dX6_give_4 (by decide) rfl (fun h4 => ?_) (fun h4 => (False.elim (by omega)))
    exact g_throw (text := "no such block or firm") rfl rfl z_tk_I (by decide +kernel) dX6_give_14 dX6_give_17 dX6_give_18 dX6_give_20 dX6_give_23 (by decide) (by decide) (by decide) (by unfold o_give; (repeat (first | rw [if_pos (by omega)] | rw [if_neg (by omega)])); exact ⟨rfl, rfl⟩)
def o_giveBack (S : zS) (b : Int) : zO := if ¬ (0 ≤ b ∧ b < 20) then (.error xI, S) else if S.2.1 8 b = -1 then (.error xS, S) else if x_bb S (10 * b.toNat) 10 = true then (.error xS, S) else (zI? (S.2.1 8 b), z_sA S 8 b (-1))
theorem c_giveBack {S : zS} {b : Int} : z_Out mX6_giveBack [zR 0, zI b] S (o_giveBack S b) := by
  refine z_enter (by decide +kernel) rfl (z_n1 trivial (z_n1 trivial z_n0)) (Nat.le_of_ble_eq_true rfl) ?_
  by_cases hb : 0 ≤ b ∧ b < 20
  · obtain ⟨k, rfl⟩ : ∃ k : Nat, b = k := ⟨b.toNat, by omega⟩
    have sp := s_X6_isBlockBusy (S := S) (b := k) (by omega)
    by_cases hx : x_bb S (10 * k) 10 = true
    · rw [if_pos hx] at sp
      refine g_iload_n (i := 1) (q := 1) dX6_giveBack_0 rfl rfl rfl ?_
      refine g_fnS (as := [zI (k : Int)]) (q := 4) (u' := 0) dX6_giveBack_1 rfl ck_X6_65 rfl rfl (Nat.le_of_ble_eq_true rfl) (by decide) rfl (by decide) (s_X6_isBlock_t hb) rfl ?_
      refine g_if_ne (t := 17) (q := 7) dX6_giveBack_4 (by decide) rfl (fun h4 => ?_) (fun h4 => (False.elim (by omega)))
      refine g_aload_n (i := 0) (q := 18) dX6_giveBack_17 rfl rfl rfl ?_
      refine g_getr (q := 21) dX6_giveBack_18 rfl fk_X6_9 rfl rfl ?_
      refine g_iload_n (i := 1) (q := 22) dX6_giveBack_21 rfl rfl rfl ?_
      refine g_ildv (q := 23) (z := S.2.1 8 (k : Int)) dX6_giveBack_22 rfl ⟨by decide, rfl, rfl⟩ (by omega) (by omega) rfl ?_
      refine g_iconst (q := 24) dX6_giveBack_23 rfl ⟨by decide, by decide⟩ ?_
      refine g_icmp_eq (t := 35) (q := 27) dX6_giveBack_24 (by decide) rfl (fun h24 => ?_) (fun h24 => ?_)
      · exact g_throw (text := "the block is not given, or one of its numbers is not free") rfl rfl z_tk_S (by decide +kernel) dX6_giveBack_35 dX6_giveBack_38 dX6_giveBack_39 dX6_giveBack_41 dX6_giveBack_44 (by decide) (by decide) (by decide) (by unfold o_giveBack; rw [Int.toNat_natCast, if_neg (by omega)]; first | (rw [if_pos (by omega)]; exact ⟨rfl, rfl⟩) | (rw [if_neg (by omega), if_pos hx]; exact ⟨rfl, rfl⟩))
      · refine g_aload_n (i := 0) (q := 28) dX6_giveBack_27 rfl rfl rfl ?_
        refine g_iload_n (i := 1) (q := 29) dX6_giveBack_28 rfl rfl rfl ?_
        refine g_fnV (as := [zI (k : Int)]) (q := 32) (u' := 0) dX6_giveBack_29 rfl ck_X6_94 rfl rfl rfl (Nat.le_of_ble_eq_true rfl) (by decide) rfl (by decide) (sp) rfl ?_
        refine g_if_eq (t := 45) (q := 35) dX6_giveBack_32 (by decide) rfl (fun h32 => (False.elim (by omega))) (fun h32 => ?_)
        exact g_throw (text := "the block is not given, or one of its numbers is not free") rfl rfl z_tk_S (by decide +kernel) dX6_giveBack_35 dX6_giveBack_38 dX6_giveBack_39 dX6_giveBack_41 dX6_giveBack_44 (by decide) (by decide) (by decide) (by unfold o_giveBack; rw [Int.toNat_natCast, if_neg (by omega)]; first | (rw [if_pos (by omega)]; exact ⟨rfl, rfl⟩) | (rw [if_neg (by omega), if_pos hx]; exact ⟨rfl, rfl⟩))
    · rw [if_neg hx] at sp
      refine g_iload_n (i := 1) (q := 1) dX6_giveBack_0 rfl rfl rfl ?_
      refine g_fnS (as := [zI (k : Int)]) (q := 4) (u' := 0) dX6_giveBack_1 rfl ck_X6_65 rfl rfl (Nat.le_of_ble_eq_true rfl) (by decide) rfl (by decide) (s_X6_isBlock_t hb) rfl ?_
      refine g_if_ne (t := 17) (q := 7) dX6_giveBack_4 (by decide) rfl (fun h4 => ?_) (fun h4 => (False.elim (by omega)))
      refine g_aload_n (i := 0) (q := 18) dX6_giveBack_17 rfl rfl rfl ?_
      refine g_getr (q := 21) dX6_giveBack_18 rfl fk_X6_9 rfl rfl ?_
      refine g_iload_n (i := 1) (q := 22) dX6_giveBack_21 rfl rfl rfl ?_
      refine g_ildv (q := 23) (z := S.2.1 8 (k : Int)) dX6_giveBack_22 rfl ⟨by decide, rfl, rfl⟩ (by omega) (by omega) rfl ?_
      refine g_iconst (q := 24) dX6_giveBack_23 rfl ⟨by decide, by decide⟩ ?_
      refine g_icmp_eq (t := 35) (q := 27) dX6_giveBack_24 (by decide) rfl (fun h24 => ?_) (fun h24 => ?_)
      · exact g_throw (text := "the block is not given, or one of its numbers is not free") rfl rfl z_tk_S (by decide +kernel) dX6_giveBack_35 dX6_giveBack_38 dX6_giveBack_39 dX6_giveBack_41 dX6_giveBack_44 (by decide) (by decide) (by decide) (by unfold o_giveBack; rw [Int.toNat_natCast, if_neg (by omega)]; first | (rw [if_pos (by omega)]; exact ⟨rfl, rfl⟩) | (rw [if_neg (by omega), if_neg hx]; exact ⟨rfl, rfl⟩))
      · refine g_aload_n (i := 0) (q := 28) dX6_giveBack_27 rfl rfl rfl ?_
        refine g_iload_n (i := 1) (q := 29) dX6_giveBack_28 rfl rfl rfl ?_
        refine g_fnV (as := [zI (k : Int)]) (q := 32) (u' := 0) dX6_giveBack_29 rfl ck_X6_94 rfl rfl rfl (Nat.le_of_ble_eq_true rfl) (by decide) rfl (by decide) (sp) rfl ?_
        refine g_if_eq (t := 45) (q := 35) dX6_giveBack_32 (by decide) rfl (fun h32 => ?_) (fun h32 => (False.elim (by omega)))
        refine g_aload_n (i := 0) (q := 46) dX6_giveBack_45 rfl rfl rfl ?_
        refine g_getr (q := 49) dX6_giveBack_46 rfl fk_X6_9 rfl rfl ?_
        refine g_iload_n (i := 1) (q := 50) dX6_giveBack_49 rfl rfl rfl ?_
        refine g_ildv (q := 51) (z := S.2.1 8 (k : Int)) dX6_giveBack_50 rfl ⟨by decide, rfl, rfl⟩ (by omega) (by omega) rfl ?_
        refine g_istore_n (i := 2) (q := 52) dX6_giveBack_51 rfl rfl (by decide) ?_
        refine g_aload_n (i := 0) (q := 53) dX6_giveBack_52 rfl rfl rfl ?_
        refine g_getr (q := 56) dX6_giveBack_53 rfl fk_X6_9 rfl rfl ?_
        refine g_iload_n (i := 1) (q := 57) dX6_giveBack_56 rfl rfl rfl ?_
        refine g_iconst (q := 58) dX6_giveBack_57 rfl ⟨by decide, by decide⟩ ?_
        refine g_iast (q := 59) dX6_giveBack_58 rfl ⟨by decide, rfl, rfl⟩ (by omega) (by omega) ?_
        refine g_iload_n (i := 2) (q := 60) dX6_giveBack_59 rfl rfl rfl ?_
        exact g_ret dX6_giveBack_60 rfl (by decide) (by unfold o_giveBack; rw [Int.toNat_natCast, if_neg (by omega)]; first | (rw [if_pos (by omega)]; exact ⟨rfl, rfl⟩) | (rw [if_neg (by omega), if_neg hx]; exact ⟨rfl, rfl⟩))
  · skip
    refine g_iload_n (i := 1) (q := 1) dX6_giveBack_0 rfl rfl rfl ?_
    refine g_fnS (as := [zI b]) (q := 4) (u' := 0) dX6_giveBack_1 rfl ck_X6_65 rfl rfl (Nat.le_of_ble_eq_true rfl) (by decide) rfl (by decide) (s_X6_isBlock_f hb) rfl ?_
    refine g_if_ne (t := 17) (q := 7) dX6_giveBack_4 (by decide) rfl (fun h4 => (False.elim (by omega))) (fun h4 => ?_)
    exact g_throw (text := "no such block") rfl rfl z_tk_I (by decide +kernel) dX6_giveBack_7 dX6_giveBack_10 dX6_giveBack_11 dX6_giveBack_13 dX6_giveBack_16 (by decide) (by decide) (by decide) (by unfold o_giveBack; (repeat (first | rw [if_pos (by omega)] | rw [if_neg (by omega)])); exact ⟨rfl, rfl⟩)
def o_assign (S : zS) (n t : Int) : zO := if ¬ (0 ≤ n ∧ n < 200) then (.error xI, S) else if ¬ (0 ≤ t ∧ t < 100) then (.error xA, S) else if S.2.1 8 (n / 10) = -1 ∨ ¬ S.2.1 13 n = -1 ∨ S.1 0 ≤ S.2.1 15 n then (.error xS, S) else (zI? (S.2.1 8 (n / 10)), x_note (z_sA (z_sA S 13 n (S.2.1 8 (n / 10))) 14 n t) 0 n (S.2.1 8 (n / 10)))
theorem c_assign {S : zS} {n t : Int} (h3 : 0 ≤ S.1 3 ∧ S.1 3 < 572) : z_Out mX6_assign [zR 0, zI n, zI t] S (o_assign S n t) := by
  refine z_enter (by decide +kernel) rfl (z_n1 trivial (z_n1 trivial (z_n1 trivial z_n0))) (Nat.le_of_ble_eq_true rfl) ?_
  refine g_iload_n (i := 1) (q := 1) dX6_assign_0 rfl rfl rfl ?_
  by_cases c1 : 0 ≤ n ∧ n < 200
  · skip
    refine g_fnS (as := [zI n]) (q := 4) (u' := 1) dX6_assign_1 rfl ck_X6_99 rfl rfl (Nat.le_of_ble_eq_true rfl) (by decide) rfl (by decide) (s_X6_requireNumber_ok c1) rfl ?_
    refine g_iload_n (i := 2) (q := 5) dX6_assign_4 rfl rfl rfl ?_
    by_cases c5 : 0 ≤ t ∧ t < 100
    · skip
      refine g_fnS (as := [zI t]) (q := 8) (u' := 2) dX6_assign_5 rfl ck_X6_103 rfl rfl (Nat.le_of_ble_eq_true rfl) (by decide) rfl (by decide) (s_X6_requireSecret_ok c5) rfl ?_
      refine g_aload_n (i := 0) (q := 9) dX6_assign_8 rfl rfl rfl ?_
      refine g_iload_n (i := 1) (q := 10) dX6_assign_9 rfl rfl rfl ?_
      refine g_fnV (as := [zI n]) (q := 13) (u' := 2) dX6_assign_10 rfl ck_X6_106 rfl rfl rfl (Nat.le_of_ble_eq_true rfl) (by decide) rfl (by decide) (s_X6_holderOf (by omega)) rfl ?_
      refine g_istore_n (i := 3) (q := 14) dX6_assign_13 rfl rfl (by decide) ?_
      refine g_iload_n (i := 3) (q := 15) dX6_assign_14 rfl rfl rfl ?_
      refine g_iconst (q := 16) dX6_assign_15 rfl ⟨by decide, by decide⟩ ?_
      refine g_icmp_eq (t := 45) (q := 19) dX6_assign_16 (by decide) rfl (fun h16 => ?_) (fun h16 => ?_)
      · exact g_throw (text := "the block is not given, or the number is not free") rfl rfl z_tk_S (by decide +kernel) dX6_assign_45 dX6_assign_48 dX6_assign_49 dX6_assign_51 dX6_assign_54 (by decide) (by decide) (by decide) (by unfold o_assign; (repeat (first | rw [if_pos (by omega)] | rw [if_neg (by omega)])); exact ⟨rfl, rfl⟩)
      · refine g_aload_n (i := 0) (q := 20) dX6_assign_19 rfl rfl rfl ?_
        refine g_getr (q := 23) dX6_assign_20 rfl fk_X6_23 rfl rfl ?_
        refine g_iload_n (i := 1) (q := 24) dX6_assign_23 rfl rfl rfl ?_
        by_cases c24 : ¬ (S).2.1 13 n = -1
        · refine g_fnV (as := [zI n]) (q := 27) (u' := 2) dX6_assign_24 rfl ck_X6_109 rfl rfl rfl (Nat.le_of_ble_eq_true rfl) (by decide) rfl (by decide) (s_X1_isInUse_t (by omega) c24) rfl ?_
          refine g_if_ne (t := 45) (q := 30) dX6_assign_27 (by decide) rfl (fun h27 => ?_) (fun h27 => (False.elim (by omega)))
          exact g_throw (text := "the block is not given, or the number is not free") rfl rfl z_tk_S (by decide +kernel) dX6_assign_45 dX6_assign_48 dX6_assign_49 dX6_assign_51 dX6_assign_54 (by decide) (by decide) (by decide) (by unfold o_assign; (repeat (first | rw [if_pos (by omega)] | rw [if_neg (by omega)])); exact ⟨rfl, rfl⟩)
        · refine g_fnV (as := [zI n]) (q := 27) (u' := 2) dX6_assign_24 rfl ck_X6_109 rfl rfl rfl (Nat.le_of_ble_eq_true rfl) (by decide) rfl (by decide) (s_X1_isInUse_f (by omega) (Decidable.not_not.mp c24)) rfl ?_
          refine g_if_ne (t := 45) (q := 30) dX6_assign_27 (by decide) rfl (fun h27 => (False.elim (by omega))) (fun h27 => ?_)
          refine g_aload_n (i := 0) (q := 31) dX6_assign_30 rfl rfl rfl ?_
          refine g_getr (q := 34) dX6_assign_31 rfl fk_X6_23 rfl rfl ?_
          refine g_iload_n (i := 1) (q := 35) dX6_assign_34 rfl rfl rfl ?_
          refine g_aload_n (i := 0) (q := 36) dX6_assign_35 rfl rfl rfl ?_
          refine g_getv (q := 39) (z := S.1 0) dX6_assign_36 rfl fk_X6_55 rfl rfl rfl ?_
          by_cases c39 : S.1 0 ≤ (S).2.1 15 n
          · refine g_fnV (as := [zI n, zI (S.1 0)]) (q := 42) (u' := 2) dX6_assign_39 rfl ck_X6_112 rfl rfl rfl (Nat.le_of_ble_eq_true rfl) (by decide) rfl (by decide) (s_X1_isInQuarantine_t (by omega) c39) rfl ?_
            refine g_if_eq (t := 55) (q := 45) dX6_assign_42 (by decide) rfl (fun h42 => (False.elim (by omega))) (fun h42 => ?_)
            exact g_throw (text := "the block is not given, or the number is not free") rfl rfl z_tk_S (by decide +kernel) dX6_assign_45 dX6_assign_48 dX6_assign_49 dX6_assign_51 dX6_assign_54 (by decide) (by decide) (by decide) (by unfold o_assign; (repeat (first | rw [if_pos (by omega)] | rw [if_neg (by omega)])); exact ⟨rfl, rfl⟩)
          · refine g_fnV (as := [zI n, zI (S.1 0)]) (q := 42) (u' := 2) dX6_assign_39 rfl ck_X6_112 rfl rfl rfl (Nat.le_of_ble_eq_true rfl) (by decide) rfl (by decide) (s_X1_isInQuarantine_f (by omega) c39) rfl ?_
            refine g_if_eq (t := 55) (q := 45) dX6_assign_42 (by decide) rfl (fun h42 => ?_) (fun h42 => (False.elim (by omega)))
            refine g_aload_n (i := 0) (q := 56) dX6_assign_55 rfl rfl rfl ?_
            refine g_getr (q := 59) dX6_assign_56 rfl fk_X6_23 rfl rfl ?_
            refine g_iload_n (i := 1) (q := 60) dX6_assign_59 rfl rfl rfl ?_
            refine g_iload_n (i := 3) (q := 61) dX6_assign_60 rfl rfl rfl ?_
            refine g_iload_n (i := 2) (q := 62) dX6_assign_61 rfl rfl rfl ?_
            refine g_fnV (as := [zI n, zI ((S).2.1 8 (n / 10)), zI t]) (q := 65) (u' := 2) dX6_assign_62 rfl ck_X6_118 rfl rfl rfl (Nat.le_of_ble_eq_true rfl) (by decide) rfl (by decide) (s_X1_begin (by omega)) rfl ?_
            refine g_aload_n (i := 0) (q := 66) dX6_assign_65 rfl rfl rfl ?_
            refine g_getr (q := 69) dX6_assign_66 rfl fk_X6_44 rfl rfl ?_
            refine g_iload_n (i := 1) (q := 70) dX6_assign_69 rfl rfl rfl ?_
            refine g_iload_n (i := 3) (q := 71) dX6_assign_70 rfl rfl rfl ?_
            refine g_fnV (as := [zI n, zI ((S).2.1 8 (n / 10))]) (q := 74) (u' := 2) dX6_assign_71 rfl ck_X6_122 rfl rfl rfl (Nat.le_of_ble_eq_true rfl) (by decide) rfl (by decide) (s_X3_serves h3.1 h3.2) rfl ?_
            refine g_iload_n (i := 3) (q := 75) dX6_assign_74 rfl rfl rfl ?_
            exact g_ret dX6_assign_75 rfl (by decide) (by unfold o_assign; (repeat (first | rw [if_pos (by omega)] | rw [if_neg (by omega)])); exact ⟨rfl, rfl⟩)
    · exact g_exS (as := [zI t]) dX6_assign_5 ck_X6_103 rfl rfl (Nat.le_of_ble_eq_true rfl) (by decide) (by decide) rfl (s_X6_requireSecret_ex c5) (by unfold o_assign; (repeat (first | rw [if_pos (by omega)] | rw [if_neg (by omega)])); exact ⟨rfl, rfl⟩)
  · exact g_exS (as := [zI n]) dX6_assign_1 ck_X6_99 rfl rfl (Nat.le_of_ble_eq_true rfl) (by decide) (by decide) rfl (s_X6_requireNumber_ex c1) (by unfold o_assign; (repeat (first | rw [if_pos (by omega)] | rw [if_neg (by omega)])); exact ⟨rfl, rfl⟩)
def x_en (S : zS) (n : Int) (c : Nat) : zS := if S.2.1 13 n = S.2.1 8 (n / 10) then x_cf (x_note (x_fin S n (S.1 0)) 0 n (-1)) n c else x_chg (x_cf (x_note (x_fin S n (S.1 0)) 0 n (-1)) n c) (S.1 0) n 6
def o_end (S : zS) (c : Nat) (n : Int) : zO := if ¬ (0 ≤ n ∧ n < 200) then (.error xI, S) else if S.2.1 13 n = -1 then (.error xS, S) else (zI? (S.2.1 13 n), x_en S n c)
theorem x_cf_fr {S : zS} {n : Int} {c : Nat} : (x_cf S n c).1 = S.1 ∧ (∀ q j, q ≠ 19 → (x_cf S n c).2.1 q j = S.2.1 q j) ∧ (x_cf S n c).2.2 = S.2.2 := by
  unfold x_cf
  split
  · exact ⟨rfl, fun q j h => za_ne h, rfl⟩
  · exact ⟨rfl, fun q j h => rfl, rfl⟩
theorem c_end {S : zS} {n : Int} {c : Nat} (hc : S.1 1 = c) (h60 : c ≤ 60) (hnow : 0 ≤ S.1 0 ∧ S.1 0 ≤ 9999) (h2 : 0 ≤ S.1 2 ∧ S.1 2 < 600) (h3 : 0 ≤ S.1 3 ∧ S.1 3 < 572) : z_Out mX6_end [zR 0, zI n] S (o_end S c n) := by
  obtain ⟨f1, f2, -⟩ := x_cf_fr (S := x_note (x_fin S n (S.1 0)) 0 n (-1)) (n := n) (c := c)
  have f3 : (x_cf (x_note (x_fin S n (S.1 0)) 0 n (-1)) n c).2.1 8 (n / 10) = S.2.1 8 (n / 10) := by rw [f2 8 _ (by omega)]; rfl
  have f4 : (x_cf (x_note (x_fin S n (S.1 0)) 0 n (-1)) n c).1 0 = S.1 0 := by rw [f1]; rfl
  have f5 : (x_cf (x_note (x_fin S n (S.1 0)) 0 n (-1)) n c).1 2 = S.1 2 := by rw [f1]; rfl
  refine z_enter (by decide +kernel) rfl (z_n1 trivial (z_n1 trivial z_n0)) (Nat.le_of_ble_eq_true rfl) ?_
  refine g_iload_n (i := 1) (q := 1) dX6_end_0 rfl rfl rfl ?_
  by_cases c1 : 0 ≤ n ∧ n < 200
  · skip
    refine g_fnS (as := [zI n]) (q := 4) (u' := 1) dX6_end_1 rfl ck_X6_99 rfl rfl (Nat.le_of_ble_eq_true rfl) (by decide) rfl (by decide) (s_X6_requireNumber_ok c1) rfl ?_
    refine g_aload_n (i := 0) (q := 5) dX6_end_4 rfl rfl rfl ?_
    refine g_iload_n (i := 1) (q := 6) dX6_end_5 rfl rfl rfl ?_
    by_cases c6 : ¬ (S).2.1 13 n = -1
    · skip
      refine g_fnV (as := [zI n]) (q := 9) (u' := 2) dX6_end_6 rfl ck_X6_126 rfl rfl rfl (Nat.le_of_ble_eq_true rfl) (by decide) rfl (by decide) (s_X6_requireInUse_ok (by omega) c6) rfl ?_
      refine g_aload_n (i := 0) (q := 10) dX6_end_9 rfl rfl rfl ?_
      refine g_getr (q := 13) dX6_end_10 rfl fk_X6_23 rfl rfl ?_
      refine g_getr (q := 16) dX6_end_13 rfl fk_X6_129 rfl rfl ?_
      refine g_iload_n (i := 1) (q := 17) dX6_end_16 rfl rfl rfl ?_
      refine g_ildv (q := 18) (z := S.2.1 13 n) dX6_end_17 rfl ⟨by decide, rfl, rfl⟩ (by omega) (by omega) rfl ?_
      refine g_istore_n (i := 2) (q := 19) dX6_end_18 rfl rfl (by decide) ?_
      refine g_aload_n (i := 0) (q := 20) dX6_end_19 rfl rfl rfl ?_
      refine g_getr (q := 23) dX6_end_20 rfl fk_X6_23 rfl rfl ?_
      refine g_iload_n (i := 1) (q := 24) dX6_end_23 rfl rfl rfl ?_
      refine g_aload_n (i := 0) (q := 25) dX6_end_24 rfl rfl rfl ?_
      refine g_getv (q := 28) (z := S.1 0) dX6_end_25 rfl fk_X6_55 rfl rfl rfl ?_
      refine g_fnV (as := [zI n, zI (S.1 0)]) (q := 31) (u' := 2) dX6_end_28 rfl ck_X6_132 rfl rfl rfl (Nat.le_of_ble_eq_true rfl) (by decide) rfl (by decide) (s_X1_finish (by omega) (by omega)) rfl ?_
      refine g_aload_n (i := 0) (q := 32) dX6_end_31 rfl rfl rfl ?_
      refine g_getr (q := 35) dX6_end_32 rfl fk_X6_44 rfl rfl ?_
      refine g_iload_n (i := 1) (q := 36) dX6_end_35 rfl rfl rfl ?_
      refine g_iconst (q := 37) dX6_end_36 rfl ⟨by decide, by decide⟩ ?_
      refine g_fnV (as := [zI n, zI (-1)]) (q := 40) (u' := 2) dX6_end_37 rfl ck_X6_122 rfl rfl rfl (Nat.le_of_ble_eq_true rfl) (by decide) rfl (by decide) (s_X3_serves (S := x_fin S n (S.1 0)) h3.1 h3.2) rfl ?_
      refine g_aload_n (i := 0) (q := 41) dX6_end_40 rfl rfl rfl ?_
      refine g_getr (q := 44) dX6_end_41 rfl fk_X6_30 rfl rfl ?_
      refine g_iload_n (i := 1) (q := 45) dX6_end_44 rfl rfl rfl ?_
      refine g_fnV (as := [zI n]) (q := 48) (u' := 2) dX6_end_45 rfl ck_X6_135 rfl rfl rfl (Nat.le_of_ble_eq_true rfl) (by decide) rfl (by decide) (s_X4_cancelFor (S := x_note (x_fin S n (S.1 0)) 0 n (-1)) hc h60) rfl ?_
      refine g_iload_n (i := 2) (q := 49) dX6_end_48 rfl rfl rfl ?_
      refine g_aload_n (i := 0) (q := 50) dX6_end_49 rfl rfl rfl ?_
      refine g_iload_n (i := 1) (q := 51) dX6_end_50 rfl rfl rfl ?_
      refine g_fnV (as := [zI n]) (q := 54) (u' := 2) dX6_end_51 rfl ck_X6_106 rfl rfl rfl (Nat.le_of_ble_eq_true rfl) (by decide) rfl (by decide) (s_X6_holderOf (by omega)) rfl ?_
      refine g_top (z := S.2.1 8 (n / 10)) f3 ?_
      refine g_icmp_eq (t := 71) (q := 57) dX6_end_54 (by decide) rfl (fun h54 => ?_) (fun h54 => ?_)
      · refine g_iload_n (i := 2) (q := 72) dX6_end_71 rfl rfl rfl ?_
        exact g_ret dX6_end_72 rfl (by decide) (by unfold o_end x_en; (repeat (first | rw [if_pos (by omega)] | rw [if_neg (by omega)])); exact ⟨rfl, rfl⟩)
      · refine g_aload_n (i := 0) (q := 58) dX6_end_57 rfl rfl rfl ?_
        refine g_getr (q := 61) dX6_end_58 rfl fk_X6_37 rfl rfl ?_
        refine g_aload_n (i := 0) (q := 62) dX6_end_61 rfl rfl rfl ?_
        refine g_getv (q := 65) (z := S.1 0) dX6_end_62 rfl fk_X6_55 rfl rfl f4 ?_
        refine g_iload_n (i := 1) (q := 66) dX6_end_65 rfl rfl rfl ?_
        refine g_bipush (q := 68) dX6_end_66 rfl ⟨by decide, by decide⟩ (by decide) ?_
        refine g_fnV (as := [zI (S.1 0), zI n, zI 6]) (q := 71) (u' := 2) dX6_end_68 rfl ck_X6_138 rfl rfl rfl (Nat.le_of_ble_eq_true rfl) (by decide) rfl (by decide) (s_X0_add (by rw [f5]; exact h2.1) (by rw [f5]; exact h2.2)) rfl ?_
        refine g_iload_n (i := 2) (q := 72) dX6_end_71 rfl rfl rfl ?_
        exact g_ret dX6_end_72 rfl (by decide) (by unfold o_end x_en; (repeat (first | rw [if_pos (by omega)] | rw [if_neg (by omega)])); exact ⟨rfl, rfl⟩)
    · exact g_exV (as := [zI n]) dX6_end_6 ck_X6_126 rfl rfl rfl (Nat.le_of_ble_eq_true rfl) (by decide) (by decide) rfl (s_X6_requireInUse_ex (by omega) c6) (by unfold o_end; (repeat (first | rw [if_pos (by omega)] | rw [if_neg (by omega)])); exact ⟨rfl, rfl⟩)
  · exact g_exS (as := [zI n]) dX6_end_1 ck_X6_99 rfl rfl (Nat.le_of_ble_eq_true rfl) (by decide) (by decide) rfl (s_X6_requireNumber_ex c1) (by unfold o_end; (repeat (first | rw [if_pos (by omega)] | rw [if_neg (by omega)])); exact ⟨rfl, rfl⟩)
def o_swap (S : zS) (n t : Int) : zO := if ¬ (0 ≤ n ∧ n < 200) then (.error xI, S) else if ¬ (0 ≤ t ∧ t < 100) then (.error xA, S) else if S.2.1 13 n = -1 then (.error xS, S) else (zI? (S.2.1 14 n), z_sA (z_sA S 14 n t) 16 n (S.1 0 + 49))
theorem c_swap {S : zS} {n t : Int} (hnow : 0 ≤ S.1 0 ∧ S.1 0 ≤ 9999) : z_Out mX6_swap [zR 0, zI n, zI t] S (o_swap S n t) := by
  refine z_enter (by decide +kernel) rfl (z_n1 trivial (z_n1 trivial (z_n1 trivial z_n0))) (Nat.le_of_ble_eq_true rfl) ?_
  refine g_iload_n (i := 1) (q := 1) dX6_swap_0 rfl rfl rfl ?_
  by_cases c1 : 0 ≤ n ∧ n < 200
  · skip
    refine g_fnS (as := [zI n]) (q := 4) (u' := 1) dX6_swap_1 rfl ck_X6_99 rfl rfl (Nat.le_of_ble_eq_true rfl) (by decide) rfl (by decide) (s_X6_requireNumber_ok c1) rfl ?_
    refine g_iload_n (i := 2) (q := 5) dX6_swap_4 rfl rfl rfl ?_
    by_cases c5 : 0 ≤ t ∧ t < 100
    · skip
      refine g_fnS (as := [zI t]) (q := 8) (u' := 2) dX6_swap_5 rfl ck_X6_103 rfl rfl (Nat.le_of_ble_eq_true rfl) (by decide) rfl (by decide) (s_X6_requireSecret_ok c5) rfl ?_
      refine g_aload_n (i := 0) (q := 9) dX6_swap_8 rfl rfl rfl ?_
      refine g_iload_n (i := 1) (q := 10) dX6_swap_9 rfl rfl rfl ?_
      by_cases c10 : ¬ (S).2.1 13 n = -1
      · skip
        refine g_fnV (as := [zI n]) (q := 13) (u' := 3) dX6_swap_10 rfl ck_X6_126 rfl rfl rfl (Nat.le_of_ble_eq_true rfl) (by decide) rfl (by decide) (s_X6_requireInUse_ok (by omega) c10) rfl ?_
        refine g_aload_n (i := 0) (q := 14) dX6_swap_13 rfl rfl rfl ?_
        refine g_getr (q := 17) dX6_swap_14 rfl fk_X6_23 rfl rfl ?_
        refine g_getr (q := 20) dX6_swap_17 rfl fk_X6_141 rfl rfl ?_
        refine g_iload_n (i := 1) (q := 21) dX6_swap_20 rfl rfl rfl ?_
        refine g_ildv (q := 22) (z := S.2.1 14 n) dX6_swap_21 rfl ⟨by decide, rfl, rfl⟩ (by omega) (by omega) rfl ?_
        refine g_istore_n (i := 3) (q := 23) dX6_swap_22 rfl rfl (by decide) ?_
        refine g_aload_n (i := 0) (q := 24) dX6_swap_23 rfl rfl rfl ?_
        refine g_getr (q := 27) dX6_swap_24 rfl fk_X6_23 rfl rfl ?_
        refine g_getr (q := 30) dX6_swap_27 rfl fk_X6_141 rfl rfl ?_
        refine g_iload_n (i := 1) (q := 31) dX6_swap_30 rfl rfl rfl ?_
        refine g_iload_n (i := 2) (q := 32) dX6_swap_31 rfl rfl rfl ?_
        refine g_iast (q := 33) dX6_swap_32 rfl ⟨by decide, rfl, rfl⟩ (by omega) (by omega) ?_
        refine g_aload_n (i := 0) (q := 34) dX6_swap_33 rfl rfl rfl ?_
        refine g_getr (q := 37) dX6_swap_34 rfl fk_X6_23 rfl rfl ?_
        refine g_getr (q := 40) dX6_swap_37 rfl fk_X6_144 rfl rfl ?_
        refine g_iload_n (i := 1) (q := 41) dX6_swap_40 rfl rfl rfl ?_
        refine g_aload_n (i := 0) (q := 42) dX6_swap_41 rfl rfl rfl ?_
        refine g_getv (q := 45) (z := S.1 0) dX6_swap_42 rfl fk_X6_55 rfl rfl rfl ?_
        refine g_bipush (q := 47) dX6_swap_45 rfl ⟨by decide, by decide⟩ (by decide) ?_
        refine g_iadd (q := 48) dX6_swap_47 rfl (by constructor <;> omega) ?_
        refine g_iast (q := 49) dX6_swap_48 rfl ⟨by decide, rfl, rfl⟩ (by omega) (by omega) ?_
        refine g_iload_n (i := 3) (q := 50) dX6_swap_49 rfl rfl rfl ?_
        exact g_ret dX6_swap_50 rfl (by decide) (by unfold o_swap; (repeat (first | rw [if_pos (by omega)] | rw [if_neg (by omega)])); exact ⟨rfl, rfl⟩)
      · exact g_exV (as := [zI n]) dX6_swap_10 ck_X6_126 rfl rfl rfl (Nat.le_of_ble_eq_true rfl) (by decide) (by decide) rfl (s_X6_requireInUse_ex (by omega) c10) (by unfold o_swap; (repeat (first | rw [if_pos (by omega)] | rw [if_neg (by omega)])); exact ⟨rfl, rfl⟩)
    · exact g_exS (as := [zI t]) dX6_swap_5 ck_X6_103 rfl rfl (Nat.le_of_ble_eq_true rfl) (by decide) (by decide) rfl (s_X6_requireSecret_ex c5) (by unfold o_swap; (repeat (first | rw [if_pos (by omega)] | rw [if_neg (by omega)])); exact ⟨rfl, rfl⟩)
  · exact g_exS (as := [zI n]) dX6_swap_1 ck_X6_99 rfl rfl (Nat.le_of_ble_eq_true rfl) (by decide) (by decide) rfl (s_X6_requireNumber_ex c1) (by unfold o_swap; (repeat (first | rw [if_pos (by omega)] | rw [if_neg (by omega)])); exact ⟨rfl, rfl⟩)
def o_emergency (S : zS) (n : Int) : zO := if ¬ (0 ≤ n ∧ n < 200) then (.error xI, S) else if S.2.1 13 n = -1 then (.error xS, S) else (zI? (S.1 0 + 30), z_sA S 17 n (S.1 0 + 30))
theorem c_emergency {S : zS} {n : Int} (hnow : 0 ≤ S.1 0 ∧ S.1 0 ≤ 9999) : z_Out mX6_emergency [zR 0, zI n] S (o_emergency S n) := by
  refine z_enter (by decide +kernel) rfl (z_n1 trivial (z_n1 trivial z_n0)) (Nat.le_of_ble_eq_true rfl) ?_
  refine g_iload_n (i := 1) (q := 1) dX6_emergency_0 rfl rfl rfl ?_
  by_cases c1 : 0 ≤ n ∧ n < 200
  · skip
    refine g_fnS (as := [zI n]) (q := 4) (u' := 1) dX6_emergency_1 rfl ck_X6_99 rfl rfl (Nat.le_of_ble_eq_true rfl) (by decide) rfl (by decide) (s_X6_requireNumber_ok c1) rfl ?_
    refine g_aload_n (i := 0) (q := 5) dX6_emergency_4 rfl rfl rfl ?_
    refine g_iload_n (i := 1) (q := 6) dX6_emergency_5 rfl rfl rfl ?_
    by_cases c6 : ¬ (S).2.1 13 n = -1
    · skip
      refine g_fnV (as := [zI n]) (q := 9) (u' := 2) dX6_emergency_6 rfl ck_X6_126 rfl rfl rfl (Nat.le_of_ble_eq_true rfl) (by decide) rfl (by decide) (s_X6_requireInUse_ok (by omega) c6) rfl ?_
      refine g_aload_n (i := 0) (q := 10) dX6_emergency_9 rfl rfl rfl ?_
      refine g_getr (q := 13) dX6_emergency_10 rfl fk_X6_23 rfl rfl ?_
      refine g_getr (q := 16) dX6_emergency_13 rfl fk_X6_147 rfl rfl ?_
      refine g_iload_n (i := 1) (q := 17) dX6_emergency_16 rfl rfl rfl ?_
      refine g_aload_n (i := 0) (q := 18) dX6_emergency_17 rfl rfl rfl ?_
      refine g_getv (q := 21) (z := S.1 0) dX6_emergency_18 rfl fk_X6_55 rfl rfl rfl ?_
      refine g_bipush (q := 23) dX6_emergency_21 rfl ⟨by decide, by decide⟩ (by decide) ?_
      refine g_iadd (q := 24) dX6_emergency_23 rfl (by constructor <;> omega) ?_
      refine g_iast (q := 25) dX6_emergency_24 rfl ⟨by decide, rfl, rfl⟩ (by omega) (by omega) ?_
      refine g_aload_n (i := 0) (q := 26) dX6_emergency_25 rfl rfl rfl ?_
      refine g_getr (q := 29) dX6_emergency_26 rfl fk_X6_23 rfl rfl ?_
      refine g_getr (q := 32) dX6_emergency_29 rfl fk_X6_147 rfl rfl ?_
      refine g_iload_n (i := 1) (q := 33) dX6_emergency_32 rfl rfl rfl ?_
      refine g_ildv (q := 34) (z := (S.1 0) + 30) dX6_emergency_33 rfl ⟨by decide, rfl, rfl⟩ (by omega) (by omega) za_eq ?_
      exact g_ret dX6_emergency_34 rfl (by decide) (by unfold o_emergency; (repeat (first | rw [if_pos (by omega)] | rw [if_neg (by omega)])); exact ⟨rfl, rfl⟩)
    · exact g_exV (as := [zI n]) dX6_emergency_6 ck_X6_126 rfl rfl rfl (Nat.le_of_ble_eq_true rfl) (by decide) (by decide) rfl (s_X6_requireInUse_ex (by omega) c6) (by unfold o_emergency; (repeat (first | rw [if_pos (by omega)] | rw [if_neg (by omega)])); exact ⟨rfl, rfl⟩)
  · exact g_exS (as := [zI n]) dX6_emergency_1 ck_X6_99 rfl rfl (Nat.le_of_ble_eq_true rfl) (by decide) (by decide) rfl (s_X6_requireNumber_ex c1) (by unfold o_emergency; (repeat (first | rw [if_pos (by omega)] | rw [if_neg (by omega)])); exact ⟨rfl, rfl⟩)
/-- all blocks, as a firm ends -/
def x_fold (g : zS → Nat → zS) : Nat → Nat → zS → zS
  | _, 0, S => S
  | i, k + 1, S => x_fold g (i + 1) k (g S i)
theorem x_fold_s {g : zS → Nat → zS} {S : zS} {i k : Nat} : x_fold g i (k + 1) S = x_fold g (i + 1) k (g S i) := rfl
def x_foldn (g : zS → Nat → zS) (w : zS → Nat → Int) : Nat → Nat → zS → Int
  | _, 0, _ => 0
  | i, k + 1, S => w S i + x_foldn g w (i + 1) k (g S i)
theorem x_foldn_s {g : zS → Nat → zS} {w : zS → Nat → Int} {S : zS} {i k : Nat} : x_foldn g w i (k + 1) S = w S i + x_foldn g w (i + 1) k (g S i) := rfl
def x_ebl (S : zS) (f h : Int) (i k : Nat) : zS := x_fold (fun T b => x_ib T f h b) i k S
def x_ebn (S : zS) (f h : Int) (i k : Nat) : Int := x_foldn (fun T b => x_ib T f h b) (fun T b => x_ibn T f h b) i k S
theorem x_ebl_0 {S : zS} {f h : Int} {i : Nat} : x_ebl S f h i 0 = S := by unfold x_ebl; rw [x_fold]
theorem x_ebl_s {S : zS} {f h : Int} {i k : Nat} : x_ebl S f h i (k + 1) = x_ebl (x_ib S f h i) f h (i + 1) k := by unfold x_ebl; rw [x_fold_s]
theorem x_ebn_0 {S : zS} {f h : Int} {i : Nat} : x_ebn S f h i 0 = 0 := by unfold x_ebn; rw [x_foldn]
theorem x_ebn_s {S : zS} {f h : Int} {i k : Nat} : x_ebn S f h i (k + 1) = x_ibn S f h i + x_ebn (x_ib S f h i) f h (i + 1) k := by unfold x_ebn; rw [x_foldn_s]
theorem x_ebl_mono {f h : Int} (k : Nat) : ∀ (i : Nat) (S : zS), S.1 2 ≤ (x_ebl S f h i k).1 2 := by
  induction k with
  | zero => intro i S; rw [x_ebl_0]; exact Int.le_refl _
  | succ k ih => intro i S; rw [x_ebl_s]; exact Int.le_trans x_ib_mono (ih (i + 1) _)
theorem x_ibl_fr {f h hb : Int} : ∀ (k i : Nat) (S : zS), (∀ q, q ≠ 2 → (x_ibl S f h hb i k).1 q = S.1 q) ∧ (∀ q j, q ≠ 13 → q ≠ 18 → q ≠ 25 → q ≠ 26 → q ≠ 27 → (x_ibl S f h hb i k).2.1 q j = S.2.1 q j) ∧ (x_ibl S f h hb i k).2.2 = S.2.2
  | 0, _, _ => ⟨fun _ _ => rfl, fun _ _ _ _ _ _ _ => rfl, rfl⟩
  | k + 1, i, S => by
    obtain ⟨h1, h2, h3⟩ := x_ibl_fr (f := f) (h := h) (hb := hb) k (i + 1) (x_ib1 S i f h hb)
    have g : (∀ q, q ≠ 2 → (x_ib1 S i f h hb).1 q = S.1 q) ∧ (∀ q j, q ≠ 13 → q ≠ 18 → q ≠ 25 → q ≠ 26 → q ≠ 27 → (x_ib1 S i f h hb).2.1 q j = S.2.1 q j) ∧ (x_ib1 S i f h hb).2.2 = S.2.2 := by
      have g1 : ∀ (T : zS) (n sb : Int), (∀ q, q ≠ 2 → (x_ah T n h sb hb).1 q = T.1 q) ∧ (∀ q j, q ≠ 25 → q ≠ 26 → q ≠ 27 → (x_ah T n h sb hb).2.1 q j = T.2.1 q j) ∧ (x_ah T n h sb hb).2.2 = T.2.2 := by
        intro T n sb
        have g2 : ∀ (m p : Int), (∀ q, q ≠ 2 → (x_chg T m n p).1 q = T.1 q) ∧ (∀ q j, q ≠ 25 → q ≠ 26 → q ≠ 27 → (x_chg T m n p).2.1 q j = T.2.1 q j) ∧ (x_chg T m n p).2.2 = T.2.2 := by
          intro m p
          refine ⟨fun q hq => ?_, fun q j a b c => ?_, rfl⟩
          · unfold x_chg
            rw [zv_sS, if_neg hq]
            rfl
          · unfold x_chg
            rw [za_sS, za_ne c, za_ne b, za_ne a]
        unfold x_ah
        split
        · split
          · split
            · exact ⟨fun _ _ => rfl, fun _ _ _ _ _ => rfl, rfl⟩
            · exact g2 _ _
          · split
            · exact ⟨fun _ _ => rfl, fun _ _ _ _ _ => rfl, rfl⟩
            · exact g2 _ _
        · exact ⟨fun _ _ => rfl, fun _ _ _ _ _ => rfl, rfl⟩
      unfold x_ib1
      split
      · obtain ⟨a1, a2, a3⟩ := g1 (z_sA (z_sA S 13 i h) 18 i (-1)) i (S.2.1 13 i)
        exact ⟨fun q hq => a1 q hq, fun q j b1 b2 b3 b4 b5 => by rw [a2 q j b3 b4 b5, za_ne b2, za_ne b1], a3⟩
      · obtain ⟨a1, a2, a3⟩ := g1 S i (S.2.1 13 i)
        exact ⟨fun q hq => a1 q hq, fun q j b1 b2 b3 b4 b5 => a2 q j b3 b4 b5, a3⟩
    rw [x_ibl]
    exact ⟨fun q hq => by rw [h1 q hq, g.1 q hq], fun q j a b c d e => by rw [h2 q j a b c d e, g.2.1 q j a b c d e], by rw [h3, g.2.2]⟩
theorem x_ib_fr {S : zS} {f h : Int} {b : Nat} : (∀ q, q ≠ 2 → (x_ib S f h b).1 q = S.1 q) ∧ (∀ q j, q ≠ 8 → q ≠ 13 → q ≠ 18 → q ≠ 25 → q ≠ 26 → q ≠ 27 → (x_ib S f h b).2.1 q j = S.2.1 q j) ∧ (x_ib S f h b).2.2 = S.2.2 := by
  obtain ⟨h1, h2, h3⟩ := x_ibl_fr (f := f) (h := h) (hb := S.2.1 8 b) 10 (10 * b) (if S.2.1 8 b = f then z_sA S 8 b h else S)
  unfold x_ib
  refine ⟨fun q hq => ?_, fun q j a0 a b c d e => ?_, ?_⟩
  · rw [h1 q hq]
    split <;> rfl
  · rw [h2 q j a b c d e]
    split
    · exact za_ne a0
    · rfl
  · rw [h3]
    split <;> rfl
theorem x_ebl_fr {f h : Int} (k : Nat) : ∀ (i : Nat) (S : zS), (∀ q, q ≠ 2 → (x_ebl S f h i k).1 q = S.1 q) ∧ (∀ q j, q ≠ 8 → q ≠ 13 → q ≠ 18 → q ≠ 25 → q ≠ 26 → q ≠ 27 → (x_ebl S f h i k).2.1 q j = S.2.1 q j) ∧ (x_ebl S f h i k).2.2 = S.2.2 := by
  induction k with
  | zero => intro i S; rw [x_ebl_0]; exact ⟨fun _ _ => rfl, fun _ _ _ _ _ _ _ _ => rfl, rfl⟩
  | succ k ih =>
    intro i S
    obtain ⟨h1, h2, h3⟩ := ih (i + 1) (x_ib S f h i)
    obtain ⟨g1, g2, g3⟩ := x_ib_fr (S := S) (f := f) (h := h) (b := i)
    rw [x_ebl_s]
    exact ⟨fun q hq => by rw [h1 q hq, g1 q hq], fun q j z a b c d e => by rw [h2 q j z a b c d e, g2 q j z a b c d e], by rw [h3, g3]⟩
theorem x_ibn_rng {S : zS} {f h : Int} {b : Nat} : 0 ≤ x_ibn S f h b ∧ x_ibn S f h b ≤ 10 := x_ibc_rng 10 _ _
theorem l_X6_endFirm {Q : zQ} {f h : Int} {c : Nat} (h60 : c ≤ 60) : ∀ (k i : Nat) (S : zS) (d : Int), i + k = 20 → S.1 1 = c → 0 ≤ S.1 2 → (x_ebl S f h i k).1 2 ≤ 600 → 0 ≤ S.1 3 → S.1 3 < 572 → 0 ≤ d ∧ d ≤ 10 * i → Q (.ok (some (zI (d + x_ebn S f h i k)))) (x_cby (x_note (x_ebl S f h i k) 1 f h) f 0 c) → z_G mX6_endFirm (z_F mX6_endFirm Q) 2 72 [some (zR 0), some (zI f), some (zI h), some (zI d), some (zI (i : Int))] [] S := by
  intro k
  induction k with
  | zero =>
    intro i S d hi hc h0 h6 h3 h35 hd hQ
    rw [x_ebn_0, Int.add_zero, x_ebl_0] at hQ
    refine g_iload (q := 74) dX6_endFirm_72 rfl rfl ?_
    refine g_bipush (q := 76) dX6_endFirm_74 rfl ⟨by decide, by decide⟩ (by decide) ?_
    refine g_icmp_ge (t := 96) (q := 79) dX6_endFirm_76 (by decide) rfl (fun h76 => ?_) (fun h76 => (False.elim (by omega)))
    refine g_aload_n (i := 0) (q := 97) dX6_endFirm_96 rfl rfl rfl ?_
    refine g_getr (q := 100) dX6_endFirm_97 rfl fk_X6_44 rfl rfl ?_
    refine g_iload_n (i := 1) (q := 101) dX6_endFirm_100 rfl rfl rfl ?_
    refine g_iload_n (i := 2) (q := 102) dX6_endFirm_101 rfl rfl rfl ?_
    refine g_fnV (as := [zI f, zI h]) (q := 105) (u' := 2) dX6_endFirm_102 rfl ck_X6_164 rfl rfl rfl (Nat.le_of_ble_eq_true rfl) (by decide) rfl (by decide) (s_X3_firmEnds h3 h35) rfl ?_
    refine g_aload_n (i := 0) (q := 106) dX6_endFirm_105 rfl rfl rfl ?_
    refine g_getr (q := 109) dX6_endFirm_106 rfl fk_X6_30 rfl rfl ?_
    refine g_iload_n (i := 1) (q := 110) dX6_endFirm_109 rfl rfl rfl ?_
    refine g_fnV (as := [zI f]) (q := 113) (u' := 2) dX6_endFirm_110 rfl ck_X6_167 rfl rfl rfl (Nat.le_of_ble_eq_true rfl) (by decide) rfl (by decide) (s_X4_cancelBy (S := x_note S 1 f h) hc h60) rfl ?_
    refine g_iload_n (i := 3) (q := 114) dX6_endFirm_113 rfl rfl rfl ?_
    exact g_ret dX6_endFirm_114 rfl (by decide) hQ
  | succ k ih =>
    intro i S d hi hc h0 h6 h3 h35 hd hQ
    rw [x_ebn_s, x_ebl_s] at hQ
    rw [x_ebl_s] at h6
    have hm := x_ebl_mono (f := f) (h := h) k (i + 1) (x_ib S f h i)
    have hm2 := x_ib_mono (S := S) (f := f) (h := h) (b := i)
    have hr := x_ibn_rng (S := S) (f := f) (h := h) (b := i)
    obtain ⟨g1, g2, -⟩ := x_ib_fr (S := S) (f := f) (h := h) (b := i)
    have hnx := ih (i + 1) (x_ib S f h i) (d + x_ibn S f h i) (by omega) (by rw [g1 1 (by omega)]; exact hc) (by omega) h6 (by rw [g1 3 (by omega)]; exact h3) (by rw [g1 3 (by omega)]; exact h35) (by omega) (by rw [Int.add_assoc]; exact hQ)
    refine g_iload (q := 74) dX6_endFirm_72 rfl rfl ?_
    refine g_bipush (q := 76) dX6_endFirm_74 rfl ⟨by decide, by decide⟩ (by decide) ?_
    refine g_icmp_ge (t := 96) (q := 79) dX6_endFirm_76 (by decide) rfl (fun h76 => (False.elim (by omega))) (fun h76 => ?_)
    refine g_iload_n (i := 3) (q := 80) dX6_endFirm_79 rfl rfl rfl ?_
    refine g_aload_n (i := 0) (q := 81) dX6_endFirm_80 rfl rfl rfl ?_
    refine g_iload (q := 83) dX6_endFirm_81 rfl rfl ?_
    refine g_iload_n (i := 1) (q := 84) dX6_endFirm_83 rfl rfl rfl ?_
    refine g_iload_n (i := 2) (q := 85) dX6_endFirm_84 rfl rfl rfl ?_
    refine g_fnV (as := [zI (i : Int), zI f, zI h]) (q := 88) (u' := 2) dX6_endFirm_85 rfl ck_X6_160 rfl rfl rfl (Nat.le_of_ble_eq_true rfl) (by decide) rfl (by decide) (s_X6_inheritBlock (b := i) (by omega) h0 (by omega)) rfl ?_
    refine g_iadd (q := 89) dX6_endFirm_88 rfl (by constructor <;> omega) ?_
    refine g_istore_n (i := 3) (q := 90) dX6_endFirm_89 rfl rfl (by decide) ?_
    refine g_iinc (q := 93) (i := 4) (n := 1) dX6_endFirm_90 rfl rfl (by constructor <;> omega) ?_
    refine g_goto (q := 0) (t := 72) dX6_endFirm_93 (by decide) ?_
    exact hnx
def x_ef (S : zS) (c : Nat) (f h : Int) : zS := x_cby (x_note (x_ebl (z_sA S 9 f 1) f h 0 20) 1 f h) f 0 c
def o_endFirm (S : zS) (c : Nat) (f h : Int) : zO := if ¬ ((0 ≤ f ∧ f < 6) ∧ (0 ≤ h ∧ h < 6)) then (.error xI, S) else if f = h then (.error xA, S) else if ¬ S.2.1 9 f = 0 ∨ ¬ S.2.1 9 h = 0 then (.error xS, S) else (zI? (x_ebn (z_sA S 9 f 1) f h 0 20), x_ef S c f h)
theorem c_endFirm {S : zS} {f h : Int} {c : Nat} (hc : S.1 1 = c) (h60 : c ≤ 60) (h2 : 0 ≤ S.1 2) (h6 : (x_ebl (z_sA S 9 f 1) f h 0 20).1 2 ≤ 600) (h3 : 0 ≤ S.1 3 ∧ S.1 3 < 572) : z_Out mX6_endFirm [zR 0, zI f, zI h] S (o_endFirm S c f h) := by
  refine z_enter (by decide +kernel) rfl (z_n1 trivial (z_n1 trivial (z_n1 trivial z_n0))) (Nat.le_of_ble_eq_true rfl) ?_
  refine g_iload_n (i := 1) (q := 1) dX6_endFirm_0 rfl rfl rfl ?_
  by_cases c1 : 0 ≤ f ∧ f < 6
  · skip
    refine g_fnS (as := [zI f]) (q := 4) (u' := 1) dX6_endFirm_1 rfl ck_X6_150 rfl rfl (Nat.le_of_ble_eq_true rfl) (by decide) rfl (by decide) (s_X6_requireFirm_ok c1) rfl ?_
    refine g_iload_n (i := 2) (q := 5) dX6_endFirm_4 rfl rfl rfl ?_
    by_cases c5 : 0 ≤ h ∧ h < 6
    · skip
      refine g_fnS (as := [zI h]) (q := 8) (u' := 2) dX6_endFirm_5 rfl ck_X6_150 rfl rfl (Nat.le_of_ble_eq_true rfl) (by decide) rfl (by decide) (s_X6_requireFirm_ok c5) rfl ?_
      refine g_iload_n (i := 1) (q := 9) dX6_endFirm_8 rfl rfl rfl ?_
      refine g_iload_n (i := 2) (q := 10) dX6_endFirm_9 rfl rfl rfl ?_
      refine g_icmp_ne (t := 23) (q := 13) dX6_endFirm_10 (by decide) rfl (fun h10 => ?_) (fun h10 => ?_)
      · refine g_aload_n (i := 0) (q := 24) dX6_endFirm_23 rfl rfl rfl ?_
        refine g_getr (q := 27) dX6_endFirm_24 rfl fk_X6_16 rfl rfl ?_
        refine g_getr (q := 30) dX6_endFirm_27 rfl fk_X6_79 rfl rfl ?_
        refine g_iload_n (i := 1) (q := 31) dX6_endFirm_30 rfl rfl rfl ?_
        refine g_zldv (q := 32) (z := S.2.1 9 f) dX6_endFirm_31 rfl ⟨by decide, rfl, rfl⟩ (by omega) (by omega) rfl ?_
        refine g_if_ne (t := 47) (q := 35) dX6_endFirm_32 (by decide) rfl (fun h32 => ?_) (fun h32 => ?_)
        · exact g_throw (text := "one of the firms is gone") rfl rfl z_tk_S (by decide +kernel) dX6_endFirm_47 dX6_endFirm_50 dX6_endFirm_51 dX6_endFirm_53 dX6_endFirm_56 (by decide) (by decide) (by decide) (by unfold o_endFirm; (repeat (first | rw [if_pos (by omega)] | rw [if_neg (by omega)])); exact ⟨rfl, rfl⟩)
        · refine g_aload_n (i := 0) (q := 36) dX6_endFirm_35 rfl rfl rfl ?_
          refine g_getr (q := 39) dX6_endFirm_36 rfl fk_X6_16 rfl rfl ?_
          refine g_getr (q := 42) dX6_endFirm_39 rfl fk_X6_79 rfl rfl ?_
          refine g_iload_n (i := 2) (q := 43) dX6_endFirm_42 rfl rfl rfl ?_
          refine g_zldv (q := 44) (z := S.2.1 9 h) dX6_endFirm_43 rfl ⟨by decide, rfl, rfl⟩ (by omega) (by omega) rfl ?_
          refine g_if_eq (t := 57) (q := 47) dX6_endFirm_44 (by decide) rfl (fun h44 => ?_) (fun h44 => ?_)
          · refine g_aload_n (i := 0) (q := 58) dX6_endFirm_57 rfl rfl rfl ?_
            refine g_getr (q := 61) dX6_endFirm_58 rfl fk_X6_16 rfl rfl ?_
            refine g_getr (q := 64) dX6_endFirm_61 rfl fk_X6_79 rfl rfl ?_
            refine g_iload_n (i := 1) (q := 65) dX6_endFirm_64 rfl rfl rfl ?_
            refine g_iconst (q := 66) dX6_endFirm_65 rfl ⟨by decide, by decide⟩ ?_
            refine g_zast (q := 67) dX6_endFirm_66 rfl ⟨by decide, rfl, rfl⟩ (by omega) (by omega) (by omega) ?_
            refine g_iconst (q := 68) dX6_endFirm_67 rfl ⟨by decide, by decide⟩ ?_
            refine g_istore_n (i := 3) (q := 69) dX6_endFirm_68 rfl rfl (by decide) ?_
            refine g_iconst (q := 70) dX6_endFirm_69 rfl ⟨by decide, by decide⟩ ?_
            refine g_istore (q := 72) dX6_endFirm_70 rfl (by decide) ?_
            exact l_X6_endFirm h60 20 0 (z_sA S 9 f 1) 0 (by omega) hc h2 h6 h3.1 h3.2 (by omega) (by unfold o_endFirm; (repeat (first | rw [if_pos (by omega)] | rw [if_neg (by omega)])); rw [Int.zero_add]; exact ⟨rfl, rfl⟩)
          · exact g_throw (text := "one of the firms is gone") rfl rfl z_tk_S (by decide +kernel) dX6_endFirm_47 dX6_endFirm_50 dX6_endFirm_51 dX6_endFirm_53 dX6_endFirm_56 (by decide) (by decide) (by decide) (by unfold o_endFirm; (repeat (first | rw [if_pos (by omega)] | rw [if_neg (by omega)])); exact ⟨rfl, rfl⟩)
      · exact g_throw (text := "a firm is not its own heir") rfl rfl z_tk_A (by decide +kernel) dX6_endFirm_13 dX6_endFirm_16 dX6_endFirm_17 dX6_endFirm_19 dX6_endFirm_22 (by decide) (by decide) (by decide) (by unfold o_endFirm; (repeat (first | rw [if_pos (by omega)] | rw [if_neg (by omega)])); exact ⟨rfl, rfl⟩)
    · exact g_exS (as := [zI h]) dX6_endFirm_5 ck_X6_150 rfl rfl (Nat.le_of_ble_eq_true rfl) (by decide) (by decide) rfl (s_X6_requireFirm_ex c5) (by unfold o_endFirm; (repeat (first | rw [if_pos (by omega)] | rw [if_neg (by omega)])); exact ⟨rfl, rfl⟩)
  · exact g_exS (as := [zI f]) dX6_endFirm_1 ck_X6_150 rfl rfl (Nat.le_of_ble_eq_true rfl) (by decide) (by decide) rfl (s_X6_requireFirm_ex c1) (by unfold o_endFirm; (repeat (first | rw [if_pos (by omega)] | rw [if_neg (by omega)])); exact ⟨rfl, rfl⟩)
def o_order (S : zS) (c : Nat) (f n t m : Int) : zO := if ¬ ((0 ≤ f ∧ f < 6) ∧ (0 ≤ n ∧ n < 200)) then (.error xI, S) else if ¬ (0 ≤ t ∧ t < 100) ∨ m ≤ S.1 0 ∨ S.1 0 + 500 < m then (.error xA, S) else if ¬ S.2.1 9 f = 0 ∨ 60 ≤ S.1 1 then (.error xS, S) else (zI? (S.1 1), x_oa S f n (S.2.1 13 n) m (x_rr S c f n t m))
theorem c_order {S : zS} {f n t m : Int} {c : Nat} (hc : S.1 1 = c) (h60 : c ≤ 60) (hnow : 0 ≤ S.1 0 ∧ S.1 0 ≤ 9999) : z_Out mX6_order [zR 0, zI f, zI n, zI t, zI m] S (o_order S c f n t m) := by
  refine z_enter (by decide +kernel) rfl (z_n1 trivial (z_n1 trivial (z_n1 trivial (z_n1 trivial (z_n1 trivial z_n0))))) (Nat.le_of_ble_eq_true rfl) ?_
  refine g_iload_n (i := 1) (q := 1) dX6_order_0 rfl rfl rfl ?_
  by_cases c1 : 0 ≤ f ∧ f < 6
  · skip
    refine g_fnS (as := [zI f]) (q := 4) (u' := 1) dX6_order_1 rfl ck_X6_150 rfl rfl (Nat.le_of_ble_eq_true rfl) (by decide) rfl (by decide) (s_X6_requireFirm_ok c1) rfl ?_
    refine g_iload_n (i := 2) (q := 5) dX6_order_4 rfl rfl rfl ?_
    by_cases c5 : 0 ≤ n ∧ n < 200
    · skip
      refine g_fnS (as := [zI n]) (q := 8) (u' := 2) dX6_order_5 rfl ck_X6_99 rfl rfl (Nat.le_of_ble_eq_true rfl) (by decide) rfl (by decide) (s_X6_requireNumber_ok c5) rfl ?_
      refine g_iload_n (i := 3) (q := 9) dX6_order_8 rfl rfl rfl ?_
      by_cases c9 : 0 ≤ t ∧ t < 100
      · skip
        refine g_fnS (as := [zI t]) (q := 12) (u' := 3) dX6_order_9 rfl ck_X6_103 rfl rfl (Nat.le_of_ble_eq_true rfl) (by decide) rfl (by decide) (s_X6_requireSecret_ok c9) rfl ?_
        refine g_iload (q := 14) dX6_order_12 rfl rfl ?_
        refine g_aload_n (i := 0) (q := 15) dX6_order_14 rfl rfl rfl ?_
        refine g_getv (q := 18) (z := S.1 0) dX6_order_15 rfl fk_X6_55 rfl rfl rfl ?_
        refine g_icmp_le (t := 34) (q := 21) dX6_order_18 (by decide) rfl (fun h18 => ?_) (fun h18 => ?_)
        · exact g_throw (text := "the minute is out of range") rfl rfl z_tk_A (by decide +kernel) dX6_order_34 dX6_order_37 dX6_order_38 dX6_order_40 dX6_order_43 (by decide) (by decide) (by decide) (by unfold o_order; (repeat (first | rw [if_pos (by omega)] | rw [if_neg (by omega)])); exact ⟨rfl, rfl⟩)
        · refine g_iload (q := 23) dX6_order_21 rfl rfl ?_
          refine g_aload_n (i := 0) (q := 24) dX6_order_23 rfl rfl rfl ?_
          refine g_getv (q := 27) (z := S.1 0) dX6_order_24 rfl fk_X6_55 rfl rfl rfl ?_
          refine g_sipush (q := 30) dX6_order_27 rfl ⟨by decide, by decide⟩ (by decide) ?_
          refine g_iadd (q := 31) dX6_order_30 rfl (by constructor <;> omega) ?_
          refine g_icmp_le (t := 44) (q := 34) dX6_order_31 (by decide) rfl (fun h31 => ?_) (fun h31 => ?_)
          · refine g_aload_n (i := 0) (q := 45) dX6_order_44 rfl rfl rfl ?_
            refine g_getr (q := 48) dX6_order_45 rfl fk_X6_16 rfl rfl ?_
            refine g_getr (q := 51) dX6_order_48 rfl fk_X6_79 rfl rfl ?_
            refine g_iload_n (i := 1) (q := 52) dX6_order_51 rfl rfl rfl ?_
            refine g_zldv (q := 53) (z := S.2.1 9 f) dX6_order_52 rfl ⟨by decide, rfl, rfl⟩ (by omega) (by omega) rfl ?_
            refine g_if_ne (t := 68) (q := 56) dX6_order_53 (by decide) rfl (fun h53 => ?_) (fun h53 => ?_)
            · exact g_throw (text := "the firm is gone, or there are too many orders") rfl rfl z_tk_S (by decide +kernel) dX6_order_68 dX6_order_71 dX6_order_72 dX6_order_74 dX6_order_77 (by decide) (by decide) (by decide) (by unfold o_order; (repeat (first | rw [if_pos (by omega)] | rw [if_neg (by omega)])); exact ⟨rfl, rfl⟩)
            · refine g_aload_n (i := 0) (q := 57) dX6_order_56 rfl rfl rfl ?_
              refine g_getr (q := 60) dX6_order_57 rfl fk_X6_30 rfl rfl ?_
              refine g_getv (q := 63) (z := S.1 1) dX6_order_60 rfl fk_X6_172 rfl rfl rfl ?_
              refine g_bipush (q := 65) dX6_order_63 rfl ⟨by decide, by decide⟩ (by decide) ?_
              refine g_icmp_lt (t := 78) (q := 68) dX6_order_65 (by decide) rfl (fun h65 => ?_) (fun h65 => ?_)
              · refine g_aload_n (i := 0) (q := 79) dX6_order_78 rfl rfl rfl ?_
                refine g_iload_n (i := 1) (q := 80) dX6_order_79 rfl rfl rfl ?_
                refine g_iload_n (i := 2) (q := 81) dX6_order_80 rfl rfl rfl ?_
                refine g_iload_n (i := 3) (q := 82) dX6_order_81 rfl rfl rfl ?_
                refine g_iload (q := 84) dX6_order_82 rfl rfl ?_
                refine g_fnV (as := [zI f, zI n, zI t, zI m]) (q := 87) (u' := 3) dX6_order_84 rfl ck_X6_177 rfl rfl rfl (Nat.le_of_ble_eq_true rfl) (by decide) rfl (by decide) (s_X6_reasonToReject hc h60 (by omega) (by omega)) rfl ?_
                refine g_istore (q := 89) dX6_order_87 rfl (by decide) ?_
                refine g_aload_n (i := 0) (q := 90) dX6_order_89 rfl rfl rfl ?_
                refine g_getr (q := 93) dX6_order_90 rfl fk_X6_30 rfl rfl ?_
                refine g_iload_n (i := 1) (q := 94) dX6_order_93 rfl rfl rfl ?_
                refine g_iload_n (i := 2) (q := 95) dX6_order_94 rfl rfl rfl ?_
                refine g_aload_n (i := 0) (q := 96) dX6_order_95 rfl rfl rfl ?_
                refine g_getr (q := 99) dX6_order_96 rfl fk_X6_23 rfl rfl ?_
                refine g_getr (q := 102) dX6_order_99 rfl fk_X6_129 rfl rfl ?_
                refine g_iload_n (i := 2) (q := 103) dX6_order_102 rfl rfl rfl ?_
                refine g_ildv (q := 104) (z := S.2.1 13 n) dX6_order_103 rfl ⟨by decide, rfl, rfl⟩ (by omega) (by omega) rfl ?_
                refine g_iload (q := 106) dX6_order_104 rfl rfl ?_
                refine g_iload (q := 108) dX6_order_106 rfl rfl ?_
                refine g_fnV (as := [zI f, zI n, zI (S.2.1 13 n), zI m, zI (x_rr S c f n t m)]) (q := 111) (u' := 3) dX6_order_108 rfl ck_X6_181 rfl rfl rfl (Nat.le_of_ble_eq_true rfl) (by decide) rfl (by decide) (s_X4_add (by omega) (by omega)) rfl ?_
                exact g_ret dX6_order_111 rfl (by decide) (by unfold o_order; (repeat (first | rw [if_pos (by omega)] | rw [if_neg (by omega)])); exact ⟨rfl, rfl⟩)
              · exact g_throw (text := "the firm is gone, or there are too many orders") rfl rfl z_tk_S (by decide +kernel) dX6_order_68 dX6_order_71 dX6_order_72 dX6_order_74 dX6_order_77 (by decide) (by decide) (by decide) (by unfold o_order; (repeat (first | rw [if_pos (by omega)] | rw [if_neg (by omega)])); exact ⟨rfl, rfl⟩)
          · exact g_throw (text := "the minute is out of range") rfl rfl z_tk_A (by decide +kernel) dX6_order_34 dX6_order_37 dX6_order_38 dX6_order_40 dX6_order_43 (by decide) (by decide) (by decide) (by unfold o_order; (repeat (first | rw [if_pos (by omega)] | rw [if_neg (by omega)])); exact ⟨rfl, rfl⟩)
      · exact g_exS (as := [zI t]) dX6_order_9 ck_X6_103 rfl rfl (Nat.le_of_ble_eq_true rfl) (by decide) (by decide) rfl (s_X6_requireSecret_ex c9) (by unfold o_order; (repeat (first | rw [if_pos (by omega)] | rw [if_neg (by omega)])); exact ⟨rfl, rfl⟩)
    · exact g_exS (as := [zI n]) dX6_order_5 ck_X6_99 rfl rfl (Nat.le_of_ble_eq_true rfl) (by decide) (by decide) rfl (s_X6_requireNumber_ex c5) (by unfold o_order; (repeat (first | rw [if_pos (by omega)] | rw [if_neg (by omega)])); exact ⟨rfl, rfl⟩)
  · exact g_exS (as := [zI f]) dX6_order_1 ck_X6_150 rfl rfl (Nat.le_of_ble_eq_true rfl) (by decide) (by decide) rfl (s_X6_requireFirm_ex c1) (by unfold o_order; (repeat (first | rw [if_pos (by omega)] | rw [if_neg (by omega)])); exact ⟨rfl, rfl⟩)
def o_cancel (S : zS) (c : Nat) (o : Int) : zO := if ¬ (0 ≤ o ∧ o < S.1 1) then (.error xI, S) else if ¬ S.2.1 19 o = 1 ∨ S.2.1 24 o - S.1 0 < 10 then (.error xS, S) else (zI? (x_cw (z_sA S 19 o 3) c), z_sA S 19 o 3)
theorem c_cancel {S : zS} {o : Int} {c : Nat} (hc : S.1 1 = c) (h60 : c ≤ 60) (hnow : 0 ≤ S.1 0 ∧ S.1 0 ≤ 9999) (hd : ∀ o : Int, 0 ≤ o → o < c → 0 ≤ S.2.1 24 o ∧ S.2.1 24 o ≤ 20000) : z_Out mX6_cancel [zR 0, zI o] S (o_cancel S c o) := by
  refine z_enter (by decide +kernel) rfl (z_n1 trivial (z_n1 trivial z_n0)) (Nat.le_of_ble_eq_true rfl) ?_
  refine g_aload_n (i := 0) (q := 1) dX6_cancel_0 rfl rfl rfl ?_
  refine g_iload_n (i := 1) (q := 2) dX6_cancel_1 rfl rfl rfl ?_
  by_cases c2 : 0 ≤ o ∧ o < (S).1 1
  · skip
    refine g_fnV (as := [zI o]) (q := 5) (u' := 1) dX6_cancel_2 rfl ck_X6_184 rfl rfl rfl (Nat.le_of_ble_eq_true rfl) (by decide) rfl (by decide) (s_X6_requireOrder_ok c2) rfl ?_
    refine g_aload_n (i := 0) (q := 6) dX6_cancel_5 rfl rfl rfl ?_
    refine g_getr (q := 9) dX6_cancel_6 rfl fk_X6_30 rfl rfl ?_
    refine g_getr (q := 12) dX6_cancel_9 rfl fk_X6_187 rfl rfl ?_
    refine g_iload_n (i := 1) (q := 13) dX6_cancel_12 rfl rfl rfl ?_
    refine g_ildv (q := 14) (z := S.2.1 19 o) dX6_cancel_13 rfl ⟨by decide, rfl, rfl⟩ (by omega) (by omega) rfl ?_
    refine g_iconst (q := 15) dX6_cancel_14 rfl ⟨by decide, by decide⟩ ?_
    refine g_icmp_ne (t := 37) (q := 18) dX6_cancel_15 (by decide) rfl (fun h15 => ?_) (fun h15 => ?_)
    · exact g_throw (text := "the order is not waiting, or comes too soon") rfl rfl z_tk_S (by decide +kernel) dX6_cancel_37 dX6_cancel_40 dX6_cancel_41 dX6_cancel_43 dX6_cancel_46 (by decide) (by decide) (by decide) (by unfold o_cancel; (repeat (first | rw [if_pos (by omega)] | rw [if_neg (by omega)])); exact ⟨rfl, rfl⟩)
    · have hdo := hd o (by omega) (by omega)
      refine g_aload_n (i := 0) (q := 19) dX6_cancel_18 rfl rfl rfl ?_
      refine g_getr (q := 22) dX6_cancel_19 rfl fk_X6_30 rfl rfl ?_
      refine g_getr (q := 25) dX6_cancel_22 rfl fk_X6_190 rfl rfl ?_
      refine g_iload_n (i := 1) (q := 26) dX6_cancel_25 rfl rfl rfl ?_
      refine g_ildv (q := 27) (z := S.2.1 24 o) dX6_cancel_26 rfl ⟨by decide, rfl, rfl⟩ (by omega) (by omega) rfl ?_
      refine g_aload_n (i := 0) (q := 28) dX6_cancel_27 rfl rfl rfl ?_
      refine g_getv (q := 31) (z := S.1 0) dX6_cancel_28 rfl fk_X6_55 rfl rfl rfl ?_
      refine g_isub (q := 32) dX6_cancel_31 rfl (by constructor <;> omega) ?_
      refine g_bipush (q := 34) dX6_cancel_32 rfl ⟨by decide, by decide⟩ (by decide) ?_
      refine g_icmp_ge (t := 47) (q := 37) dX6_cancel_34 (by decide) rfl (fun h34 => ?_) (fun h34 => ?_)
      · refine g_aload_n (i := 0) (q := 48) dX6_cancel_47 rfl rfl rfl ?_
        refine g_getr (q := 51) dX6_cancel_48 rfl fk_X6_30 rfl rfl ?_
        refine g_getr (q := 54) dX6_cancel_51 rfl fk_X6_187 rfl rfl ?_
        refine g_iload_n (i := 1) (q := 55) dX6_cancel_54 rfl rfl rfl ?_
        refine g_iconst (q := 56) dX6_cancel_55 rfl ⟨by decide, by decide⟩ ?_
        refine g_iast (q := 57) dX6_cancel_56 rfl ⟨by decide, rfl, rfl⟩ (by omega) (by omega) ?_
        refine g_aload_n (i := 0) (q := 58) dX6_cancel_57 rfl rfl rfl ?_
        refine g_getr (q := 61) dX6_cancel_58 rfl fk_X6_30 rfl rfl ?_
        refine g_fnV (as := []) (q := 64) (u' := 1) dX6_cancel_61 rfl ck_X6_195 rfl rfl rfl (Nat.le_of_ble_eq_true rfl) (by decide) rfl (by decide) (s_X4_countWaiting (S := z_sA S 19 o 3) hc h60) rfl ?_
        exact g_ret dX6_cancel_64 rfl (by decide) (by unfold o_cancel; (repeat (first | rw [if_pos (by omega)] | rw [if_neg (by omega)])); exact ⟨rfl, rfl⟩)
      · exact g_throw (text := "the order is not waiting, or comes too soon") rfl rfl z_tk_S (by decide +kernel) dX6_cancel_37 dX6_cancel_40 dX6_cancel_41 dX6_cancel_43 dX6_cancel_46 (by decide) (by decide) (by decide) (by unfold o_cancel; (repeat (first | rw [if_pos (by omega)] | rw [if_neg (by omega)])); exact ⟨rfl, rfl⟩)
  · exact g_exV (as := [zI o]) dX6_cancel_2 ck_X6_184 rfl rfl rfl (Nat.le_of_ble_eq_true rfl) (by decide) (by decide) rfl (s_X6_requireOrder_ex c2) (by unfold o_cancel; (repeat (first | rw [if_pos (by omega)] | rw [if_neg (by omega)])); exact ⟨rfl, rfl⟩)
