/-! ===== the law's small methods ===== -/
def zlow (v n : Int) : Int := zUshr v 1 % n
theorem zlow_rng {v n : Int} (hn : 0 < n) : 0 ≤ zlow v n ∧ zlow v n < n := ⟨Int.emod_nonneg _ (by omega), Int.emod_lt_of_pos _ hn⟩
theorem s_L_low {S : zS} {v n : Int} (hn : 0 < n) : z_Fn mL_low [zI v, zI n] S (some (zI (zlow v n))) S := by
  have h0 := zUshr1 v
  refine z_enter (by decide +kernel) rfl (z_n1 trivial (z_n1 trivial z_n0)) (Nat.le_of_ble_eq_true rfl) ?_
  refine g_iload_n (i := 0) (q := 1) dL_low_0 rfl rfl rfl ?_
  refine g_iconst (q := 2) dL_low_1 rfl ⟨by decide, by decide⟩ ?_
  refine g_iushrv (q := 3) (z := zUshr v 1) dL_low_2 rfl (rfl) ?_
  refine g_iload_n (i := 1) (q := 4) dL_low_3 rfl rfl rfl ?_
  refine g_irem (q := 5) dL_low_4 rfl (by omega) (by omega) ?_
  exact g_ret dL_low_5 rfl (by decide) (by first | exact ⟨rfl, rfl⟩ | (exfalso; omega))
def zdg (i : Int) : Int := 10 * (i / 3) + i % 3 * 4
theorem s_L_digits {S : zS} {i : Int} (h : 0 ≤ i ∧ i < 16) : z_Fn mL_digits [zI i] S (some (zI (zdg i))) S := by
  refine z_enter (by decide +kernel) rfl (z_n1 trivial z_n0) (Nat.le_of_ble_eq_true rfl) ?_
  refine g_bipush (q := 2) dL_digits_0 rfl ⟨by decide, by decide⟩ (by decide) ?_
  refine g_iload_n (i := 0) (q := 3) dL_digits_2 rfl rfl rfl ?_
  refine g_iconst (q := 4) dL_digits_3 rfl ⟨by decide, by decide⟩ ?_
  refine g_idiv (q := 5) dL_digits_4 rfl (by omega) (by omega) ?_
  refine g_imul (q := 6) dL_digits_5 rfl (by constructor <;> omega) ?_
  refine g_iload_n (i := 0) (q := 7) dL_digits_6 rfl rfl rfl ?_
  refine g_iconst (q := 8) dL_digits_7 rfl ⟨by decide, by decide⟩ ?_
  refine g_irem (q := 9) dL_digits_8 rfl (by omega) (by omega) ?_
  refine g_iconst (q := 10) dL_digits_9 rfl ⟨by decide, by decide⟩ ?_
  refine g_imul (q := 11) dL_digits_10 rfl (by constructor <;> omega) ?_
  refine g_iadd (q := 12) dL_digits_11 rfl (by constructor <;> omega) ?_
  exact g_ret dL_digits_12 rfl (by decide) (by first | exact ⟨rfl, rfl⟩ | (exfalso; omega))
theorem s_L_state {S : zS} {v : Int} (h : 0 ≤ v ∧ v < 2147483648) : z_Fn mL_state [zI v] S (some (zI (v % 8))) S := by
  refine z_enter (by decide +kernel) rfl (z_n1 trivial z_n0) (Nat.le_of_ble_eq_true rfl) ?_
  refine g_iload_n (i := 0) (q := 1) dL_state_0 rfl rfl rfl ?_
  refine g_bipush (q := 3) dL_state_1 rfl ⟨by decide, by decide⟩ (by decide) ?_
  refine g_iandv (q := 4) (z := v % 8) dL_state_3 rfl (zAnd_m 3 (by decide) (by decide) (by omega) (by omega)) ?_
  exact g_ret dL_state_4 rfl (by decide) (by first | exact ⟨rfl, rfl⟩ | (exfalso; omega))
theorem s_L_winner {S : zS} {v : Int} (h : 0 ≤ v ∧ v < 2147483648) : z_Fn mL_winner [zI v] S (some (zI (v / 1024 % 8))) S := by
  refine z_enter (by decide +kernel) rfl (z_n1 trivial z_n0) (Nat.le_of_ble_eq_true rfl) ?_
  refine g_iload_n (i := 0) (q := 1) dL_winner_0 rfl rfl rfl ?_
  refine g_bipush (q := 3) dL_winner_1 rfl ⟨by decide, by decide⟩ (by decide) ?_
  refine g_ishrv (q := 4) (z := v / 1024) dL_winner_3 rfl (zShr_p 10 (by decide) (by decide) (by constructor <;> omega)) ?_
  refine g_bipush (q := 6) dL_winner_4 rfl ⟨by decide, by decide⟩ (by decide) ?_
  refine g_iandv (q := 7) (z := (v / 1024) % 8) dL_winner_6 rfl (zAnd_m 3 (by decide) (by decide) (by omega) (by omega)) ?_
  exact g_ret dL_winner_7 rfl (by decide) (by first | exact ⟨rfl, rfl⟩ | (exfalso; omega))
theorem s_L_minute {S : zS} {v : Int} (h : 0 ≤ v ∧ v < 2147483648) : z_Fn mL_minute [zI v] S (some (zI (v / 65536))) S := by
  refine z_enter (by decide +kernel) rfl (z_n1 trivial z_n0) (Nat.le_of_ble_eq_true rfl) ?_
  refine g_iload_n (i := 0) (q := 1) dL_minute_0 rfl rfl rfl ?_
  refine g_bipush (q := 3) dL_minute_1 rfl ⟨by decide, by decide⟩ (by decide) ?_
  refine g_iushrv (q := 4) (z := v / 65536) dL_minute_3 rfl (zUshr16 (by omega) (by omega)) ?_
  exact g_ret dL_minute_4 rfl (by decide) (by first | exact ⟨rfl, rfl⟩ | (exfalso; omega))
theorem s_L_isDown {S : zS} {v : Int} (h : 0 ≤ v ∧ v < 2147483648) : z_Fn mL_isDown [zI v] S (some (zI (v / 64 % 2))) S := by
  refine z_enter (by decide +kernel) rfl (z_n1 trivial z_n0) (Nat.le_of_ble_eq_true rfl) ?_
  by_cases e : v / 64 % 2 = 0
  · rw [e]
    refine g_iload_n (i := 0) (q := 1) dL_isDown_0 rfl rfl rfl ?_
    refine g_bipush (q := 3) dL_isDown_1 rfl ⟨by decide, by decide⟩ (by decide) ?_
    refine g_iandv (q := 4) (z := v / 64 % 2 * 64) dL_isDown_3 rfl (zAnd_b 6 (by decide) (by omega) (by omega)) ?_
    refine g_if_le (t := 11) (q := 7) dL_isDown_4 (by decide) rfl (fun h4 => ?_) (fun h4 => (False.elim (by omega)))
    refine g_iconst (q := 12) dL_isDown_11 rfl ⟨by decide, by decide⟩ ?_
    exact g_retz dL_isDown_12 rfl (by omega) (by decide) (by first | exact ⟨rfl, rfl⟩ | (exfalso; omega))
  · rw [show v / 64 % 2 = 1 by omega]
    refine g_iload_n (i := 0) (q := 1) dL_isDown_0 rfl rfl rfl ?_
    refine g_bipush (q := 3) dL_isDown_1 rfl ⟨by decide, by decide⟩ (by decide) ?_
    refine g_iandv (q := 4) (z := v / 64 % 2 * 64) dL_isDown_3 rfl (zAnd_b 6 (by decide) (by omega) (by omega)) ?_
    refine g_if_le (t := 11) (q := 7) dL_isDown_4 (by decide) rfl (fun h4 => (False.elim (by omega))) (fun h4 => ?_)
    refine g_iconst (q := 8) dL_isDown_7 rfl ⟨by decide, by decide⟩ ?_
    refine g_goto (q := 0) (t := 12) dL_isDown_8 (by decide) ?_
    exact g_retz dL_isDown_12 rfl (by omega) (by decide) (by first | exact ⟨rfl, rfl⟩ | (exfalso; omega))
theorem s_L_isGone {S : zS} {v : Int} (h : 0 ≤ v ∧ v < 2147483648) : z_Fn mL_isGone [zI v] S (some (zI (v / 128 % 2))) S := by
  refine z_enter (by decide +kernel) rfl (z_n1 trivial z_n0) (Nat.le_of_ble_eq_true rfl) ?_
  by_cases e : v / 128 % 2 = 0
  · rw [e]
    refine g_iload_n (i := 0) (q := 1) dL_isGone_0 rfl rfl rfl ?_
    refine g_sipush (q := 4) dL_isGone_1 rfl ⟨by decide, by decide⟩ (by decide) ?_
    refine g_iandv (q := 5) (z := v / 128 % 2 * 128) dL_isGone_4 rfl (zAnd_b 7 (by decide) (by omega) (by omega)) ?_
    refine g_if_le (t := 12) (q := 8) dL_isGone_5 (by decide) rfl (fun h5 => ?_) (fun h5 => (False.elim (by omega)))
    refine g_iconst (q := 13) dL_isGone_12 rfl ⟨by decide, by decide⟩ ?_
    exact g_retz dL_isGone_13 rfl (by omega) (by decide) (by first | exact ⟨rfl, rfl⟩ | (exfalso; omega))
  · rw [show v / 128 % 2 = 1 by omega]
    refine g_iload_n (i := 0) (q := 1) dL_isGone_0 rfl rfl rfl ?_
    refine g_sipush (q := 4) dL_isGone_1 rfl ⟨by decide, by decide⟩ (by decide) ?_
    refine g_iandv (q := 5) (z := v / 128 % 2 * 128) dL_isGone_4 rfl (zAnd_b 7 (by decide) (by omega) (by omega)) ?_
    refine g_if_le (t := 12) (q := 8) dL_isGone_5 (by decide) rfl (fun h5 => (False.elim (by omega))) (fun h5 => ?_)
    refine g_iconst (q := 9) dL_isGone_8 rfl ⟨by decide, by decide⟩ ?_
    refine g_goto (q := 0) (t := 13) dL_isGone_9 (by decide) ?_
    exact g_retz dL_isGone_13 rfl (by omega) (by decide) (by first | exact ⟨rfl, rfl⟩ | (exfalso; omega))
theorem s_L_account {S : zS} {v : Int} (h : 0 ≤ v ∧ v < 2147483648) : z_Fn mL_account [zI v] S (some (zI (v / 1024 - 4096))) S := by
  refine z_enter (by decide +kernel) rfl (z_n1 trivial z_n0) (Nat.le_of_ble_eq_true rfl) ?_
  refine g_iload_n (i := 0) (q := 1) dL_account_0 rfl rfl rfl ?_
  refine g_bipush (q := 3) dL_account_1 rfl ⟨by decide, by decide⟩ (by decide) ?_
  refine g_ishrv (q := 4) (z := v / 1024) dL_account_3 rfl (zShr_p 10 (by decide) (by decide) (by constructor <;> omega)) ?_
  refine g_sipush (q := 7) dL_account_4 rfl ⟨by decide, by decide⟩ (by decide) ?_
  refine g_isub (q := 8) dL_account_7 rfl (by constructor <;> omega) ?_
  exact g_ret dL_account_8 rfl (by decide) (by first | exact ⟨rfl, rfl⟩ | (exfalso; omega))
theorem s_L_cell {S : zS} {k : Int} (hk : 0 ≤ k ∧ k < 1000) : z_Sp mL_cell [zR 49, zI k] S (fun x T => (∃ v, x = .ok (some (zI v)) ∧ z_in v) ∧ T = S) := by
  refine z_enter (by decide +kernel) rfl (z_n1 trivial (z_n1 trivial z_n0)) (Nat.le_of_ble_eq_true rfl) ?_
  refine g_iload_n (i := 1) (q := 1) dL_cell_0 rfl rfl rfl ?_
  refine g_aload_n (i := 0) (q := 2) dL_cell_1 rfl rfl rfl ?_
  refine g_scr (t := 12) (q := 9) (by omega) (by omega) rfl rfl dL_cell_2 rfl dL_cell_3 (by decide) rfl dL_cell_6 rfl dL_cell_7 rfl dL_cell_8 rfl ?_ (fun v hv => ?_)
  · skip
    refine g_ldc (z := 1205587477) (q := 14) dL_cell_12 rfl (z_big_of (by decide +kernel) rfl) (by constructor <;> decide) ?_
    refine g_iload_n (i := 1) (q := 15) dL_cell_14 rfl rfl rfl ?_
    refine g_bipush (q := 17) dL_cell_15 rfl ⟨by decide, by decide⟩ (by decide) ?_
    refine g_iadd (q := 18) dL_cell_17 rfl (by constructor <;> omega) ?_
    refine g_imulw (q := 19) dL_cell_18 rfl (fun v hv => ?_)
    exact g_ret dL_cell_19 rfl (by decide) ⟨⟨v, rfl, hv⟩, rfl⟩
  · skip
    refine g_goto (q := 0) (t := 19) dL_cell_9 (by decide) ?_
    exact g_ret dL_cell_19 rfl (by decide) ⟨⟨v, rfl, hv⟩, rfl⟩
/-- the order that waits for number i -/
def y_wt (T : zS) (i : Int) (c : Nat) : Option Nat := z_first (fun a => decide (T.2.1 42 a % 8 = 1 ∧ T.2.1 42 a / 64 % 16 = i)) 0 c
def y_wa (T : zS) (m : Int) (c : Nat) : Nat := z_ct (fun a => decide (T.2.1 42 a % 8 = 1 ∧ T.2.1 42 a / 65536 = m)) c
/-- the orders' words are not below nought -/
def yO (T : zS) (c : Nat) : Prop := T.2.1 47 1 = c ∧ c ≤ 50 ∧ ∀ a : Int, 0 ≤ a → a < c → 0 ≤ T.2.1 42 a ∧ T.2.1 42 a < 2147483648
theorem l_L_waits {Q : zQ} {T : zS} {n : Int} {c : Nat} (hO : yO T c) : ∀ (k i : Nat), i + k = c → Q (.ok (some (zI (z_on (z_first (fun a => decide (T.2.1 42 a % 8 = 1 ∧ T.2.1 42 a / 64 % 16 = n)) i k))))) T → z_G mL_waits (z_F mL_waits Q) 0 2 [some (zI n), some (zR 42), some (zR 47), some (zI (i : Int))] [] T := by
  obtain ⟨hc, h50, ho⟩ := hO
  intro k
  induction k with
  | zero =>
    intro i hi hQ
    refine g_iload_n (i := 3) (q := 3) dL_waits_2 rfl rfl rfl ?_
    refine g_aload_n (i := 2) (q := 4) dL_waits_3 rfl rfl rfl ?_
    refine g_iconst (q := 5) dL_waits_4 rfl ⟨by decide, by decide⟩ ?_
    refine g_ildv (q := 6) (z := T.2.1 47 1) dL_waits_5 rfl ⟨by decide, rfl, rfl⟩ (by omega) (by omega) rfl ?_
    refine g_icmp_ge (t := 40) (q := 9) dL_waits_6 (by decide) rfl (fun h6 => ?_) (fun h6 => (False.elim (by omega)))
    refine g_iconst (q := 41) dL_waits_40 rfl ⟨by decide, by decide⟩ ?_
    exact g_ret dL_waits_41 rfl (by decide) hQ
  | succ k ih =>
    intro i hi hQ
    have hlt : (i : Int) < T.2.1 47 1 := by omega
    have hoi := ho (i : Int) (by omega) (by omega)
    unfold z_first at hQ
    refine g_iload_n (i := 3) (q := 3) dL_waits_2 rfl rfl rfl ?_
    refine g_aload_n (i := 2) (q := 4) dL_waits_3 rfl rfl rfl ?_
    refine g_iconst (q := 5) dL_waits_4 rfl ⟨by decide, by decide⟩ ?_
    refine g_ildv (q := 6) (z := T.2.1 47 1) dL_waits_5 rfl ⟨by decide, rfl, rfl⟩ (by omega) (by omega) rfl ?_
    refine g_icmp_ge (t := 40) (q := 9) dL_waits_6 (by decide) rfl (fun h6 => (False.elim (by omega))) (fun h6 => ?_)
    refine g_aload_n (i := 1) (q := 10) dL_waits_9 rfl rfl rfl ?_
    refine g_iload_n (i := 3) (q := 11) dL_waits_10 rfl rfl rfl ?_
    refine g_ildv (q := 12) (z := T.2.1 42 (i : Int)) dL_waits_11 rfl ⟨by decide, rfl, rfl⟩ (by omega) (by omega) rfl ?_
    refine g_fnS (as := [zI (T.2.1 42 (i : Int))]) (q := 15) (u' := 0) dL_waits_12 rfl ck_L_96 rfl rfl (Nat.le_of_ble_eq_true rfl) ⟨Nat.le_of_ble_eq_true rfl, Nat.le_of_ble_eq_true rfl⟩ rfl (by decide) (s_L_state (by omega)) rfl ?_
    refine g_iconst (q := 16) dL_waits_15 rfl ⟨by decide, by decide⟩ ?_
    refine g_icmp_ne (t := 34) (q := 19) dL_waits_16 (by decide) rfl (fun h16 => ?_) (fun h16 => ?_)
    · refine g_iinc (q := 37) (i := 3) (n := 1) dL_waits_34 rfl rfl (by constructor <;> omega) ?_
      refine g_goto (q := 0) (t := 2) dL_waits_37 (by decide) ?_
      exact ih (i + 1) (by omega) (by rw [if_neg (by simp; omega)] at hQ; exact hQ)
    · refine g_aload_n (i := 1) (q := 20) dL_waits_19 rfl rfl rfl ?_
      refine g_iload_n (i := 3) (q := 21) dL_waits_20 rfl rfl rfl ?_
      refine g_ildv (q := 22) (z := T.2.1 42 (i : Int)) dL_waits_21 rfl ⟨by decide, rfl, rfl⟩ (by omega) (by omega) rfl ?_
      refine g_bipush (q := 24) dL_waits_22 rfl ⟨by decide, by decide⟩ (by decide) ?_
      refine g_ishrv (q := 25) (z := (T.2.1 42 (i : Int)) / 64) dL_waits_24 rfl (zShr_p 6 (by decide) (by decide) (by constructor <;> omega)) ?_
      refine g_bipush (q := 27) dL_waits_25 rfl ⟨by decide, by decide⟩ (by decide) ?_
      refine g_iandv (q := 28) (z := ((T.2.1 42 (i : Int)) / 64) % 16) dL_waits_27 rfl (zAnd_m 4 (by decide) (by decide) (by omega) (by omega)) ?_
      refine g_iload_n (i := 0) (q := 29) dL_waits_28 rfl rfl rfl ?_
      refine g_icmp_ne (t := 34) (q := 32) dL_waits_29 (by decide) rfl (fun h29 => ?_) (fun h29 => ?_)
      · refine g_iinc (q := 37) (i := 3) (n := 1) dL_waits_34 rfl rfl (by constructor <;> omega) ?_
        refine g_goto (q := 0) (t := 2) dL_waits_37 (by decide) ?_
        exact ih (i + 1) (by omega) (by rw [if_neg (by simp; omega)] at hQ; exact hQ)
      · refine g_iload_n (i := 3) (q := 33) dL_waits_32 rfl rfl rfl ?_
        exact g_ret dL_waits_33 rfl (by decide) (by rw [if_pos (by simp; omega)] at hQ; exact hQ)
theorem s_L_waits {T : zS} {n : Int} {c : Nat} (hO : yO T c) : z_Fn mL_waits [zI n, zR 42, zR 47] T (some (zI (z_on (y_wt T n c)))) T := by
  refine z_enter (by decide +kernel) rfl (z_n1 trivial (z_n1 trivial (z_n1 trivial z_n0))) (Nat.le_of_ble_eq_true rfl) ?_
  refine g_iconst (q := 1) dL_waits_0 rfl ⟨by decide, by decide⟩ ?_
  refine g_istore_n (i := 3) (q := 2) dL_waits_1 rfl rfl (Nat.le_of_ble_eq_true rfl) ?_
  exact l_L_waits hO c 0 (by omega) ⟨rfl, rfl⟩
theorem y_wa_s (T : zS) (m : Int) (i : Nat) : y_wa T m (i + 1) = y_wa T m i + if T.2.1 42 i % 8 = 1 ∧ T.2.1 42 i / 65536 = m then 1 else 0 := by
  unfold y_wa
  rw [z_ct]
  simp
theorem y_wa_le (T : zS) (m : Int) (i : Nat) : y_wa T m i ≤ i := z_ct_le _ _
theorem l_L_waitAt {Q : zQ} {T : zS} {m : Int} {c : Nat} (hO : yO T c) (hQ : Q (.ok (some (zI (y_wa T m c)))) T) : ∀ (k i : Nat) (w : Int), i + k = c → w = y_wa T m i → z_G mL_waitAt (z_F mL_waitAt Q) 0 5 [some (zI m), some (zR 42), some (zR 47), some (zI w), some (zI (i : Int))] [] T := by
  obtain ⟨hc, h50, ho⟩ := hO
  intro k
  induction k with
  | zero =>
    intro i w hi hw
    have e : i = c := by omega
    subst e
    subst hw
    refine g_iload (q := 7) dL_waitAt_5 rfl rfl ?_
    refine g_aload_n (i := 2) (q := 8) dL_waitAt_7 rfl rfl rfl ?_
    refine g_iconst (q := 9) dL_waitAt_8 rfl ⟨by decide, by decide⟩ ?_
    refine g_ildv (q := 10) (z := T.2.1 47 1) dL_waitAt_9 rfl ⟨by decide, rfl, rfl⟩ (by omega) (by omega) rfl ?_
    refine g_icmp_ge (t := 49) (q := 13) dL_waitAt_10 (by decide) rfl (fun h10 => ?_) (fun h10 => (False.elim (by omega)))
    refine g_iload_n (i := 3) (q := 50) dL_waitAt_49 rfl rfl rfl ?_
    exact g_ret dL_waitAt_50 rfl (by decide) hQ
  | succ k ih =>
    intro i w hi hw
    have hlt : (i : Int) < T.2.1 47 1 := by omega
    have hle := y_wa_le T m i
    have hoi := ho (i : Int) (by omega) (by omega)
    have hs := y_wa_s T m i
    refine g_iload (q := 7) dL_waitAt_5 rfl rfl ?_
    refine g_aload_n (i := 2) (q := 8) dL_waitAt_7 rfl rfl rfl ?_
    refine g_iconst (q := 9) dL_waitAt_8 rfl ⟨by decide, by decide⟩ ?_
    refine g_ildv (q := 10) (z := T.2.1 47 1) dL_waitAt_9 rfl ⟨by decide, rfl, rfl⟩ (by omega) (by omega) rfl ?_
    refine g_icmp_ge (t := 49) (q := 13) dL_waitAt_10 (by decide) rfl (fun h10 => (False.elim (by omega))) (fun h10 => ?_)
    refine g_iload_n (i := 3) (q := 14) dL_waitAt_13 rfl rfl rfl ?_
    refine g_aload_n (i := 1) (q := 15) dL_waitAt_14 rfl rfl rfl ?_
    refine g_iload (q := 17) dL_waitAt_15 rfl rfl ?_
    refine g_ildv (q := 18) (z := T.2.1 42 (i : Int)) dL_waitAt_17 rfl ⟨by decide, rfl, rfl⟩ (by omega) (by omega) rfl ?_
    refine g_fnS (as := [zI (T.2.1 42 (i : Int))]) (q := 21) (u' := 0) dL_waitAt_18 rfl ck_L_96 rfl rfl (Nat.le_of_ble_eq_true rfl) ⟨Nat.le_of_ble_eq_true rfl, Nat.le_of_ble_eq_true rfl⟩ rfl (by decide) (s_L_state (by omega)) rfl ?_
    refine g_iconst (q := 22) dL_waitAt_21 rfl ⟨by decide, by decide⟩ ?_
    refine g_icmp_ne (t := 40) (q := 25) dL_waitAt_22 (by decide) rfl (fun h22 => ?_) (fun h22 => ?_)
    · refine g_iconst (q := 41) dL_waitAt_40 rfl ⟨by decide, by decide⟩ ?_
      refine g_iadd (q := 42) dL_waitAt_41 rfl (by constructor <;> omega) ?_
      refine g_istore_n (i := 3) (q := 43) dL_waitAt_42 rfl rfl (Nat.le_of_ble_eq_true rfl) ?_
      refine g_iinc (q := 46) (i := 4) (n := 1) dL_waitAt_43 rfl rfl (by constructor <;> omega) ?_
      refine g_goto (q := 0) (t := 5) dL_waitAt_46 (by decide) ?_
      exact ih (i + 1) _ (by omega) (by rw [hs]; first | rw [if_pos (by omega)]; omega | rw [if_neg (by omega)]; omega)
    · refine g_aload_n (i := 1) (q := 26) dL_waitAt_25 rfl rfl rfl ?_
      refine g_iload (q := 28) dL_waitAt_26 rfl rfl ?_
      refine g_ildv (q := 29) (z := T.2.1 42 (i : Int)) dL_waitAt_28 rfl ⟨by decide, rfl, rfl⟩ (by omega) (by omega) rfl ?_
      refine g_fnS (as := [zI (T.2.1 42 (i : Int))]) (q := 32) (u' := 0) dL_waitAt_29 rfl ck_L_101 rfl rfl (Nat.le_of_ble_eq_true rfl) ⟨Nat.le_of_ble_eq_true rfl, Nat.le_of_ble_eq_true rfl⟩ rfl (by decide) (s_L_minute (by omega)) rfl ?_
      refine g_iload_n (i := 0) (q := 33) dL_waitAt_32 rfl rfl rfl ?_
      refine g_icmp_ne (t := 40) (q := 36) dL_waitAt_33 (by decide) rfl (fun h33 => ?_) (fun h33 => ?_)
      · refine g_iconst (q := 41) dL_waitAt_40 rfl ⟨by decide, by decide⟩ ?_
        refine g_iadd (q := 42) dL_waitAt_41 rfl (by constructor <;> omega) ?_
        refine g_istore_n (i := 3) (q := 43) dL_waitAt_42 rfl rfl (Nat.le_of_ble_eq_true rfl) ?_
        refine g_iinc (q := 46) (i := 4) (n := 1) dL_waitAt_43 rfl rfl (by constructor <;> omega) ?_
        refine g_goto (q := 0) (t := 5) dL_waitAt_46 (by decide) ?_
        exact ih (i + 1) _ (by omega) (by rw [hs]; first | rw [if_pos (by omega)]; omega | rw [if_neg (by omega)]; omega)
      · refine g_iconst (q := 37) dL_waitAt_36 rfl ⟨by decide, by decide⟩ ?_
        refine g_goto (q := 0) (t := 41) dL_waitAt_37 (by decide) ?_
        refine g_iadd (q := 42) dL_waitAt_41 rfl (by constructor <;> omega) ?_
        refine g_istore_n (i := 3) (q := 43) dL_waitAt_42 rfl rfl (Nat.le_of_ble_eq_true rfl) ?_
        refine g_iinc (q := 46) (i := 4) (n := 1) dL_waitAt_43 rfl rfl (by constructor <;> omega) ?_
        refine g_goto (q := 0) (t := 5) dL_waitAt_46 (by decide) ?_
        exact ih (i + 1) _ (by omega) (by rw [hs]; first | rw [if_pos (by omega)]; omega | rw [if_neg (by omega)]; omega)
theorem s_L_waitAt {T : zS} {m : Int} {c : Nat} (hO : yO T c) : z_Fn mL_waitAt [zI m, zR 42, zR 47] T (some (zI (y_wa T m c))) T := by
  refine z_enter (by decide +kernel) rfl (z_n1 trivial (z_n1 trivial (z_n1 trivial z_n0))) (Nat.le_of_ble_eq_true rfl) ?_
  refine g_iconst (q := 1) dL_waitAt_0 rfl ⟨by decide, by decide⟩ ?_
  refine g_istore_n (i := 3) (q := 2) dL_waitAt_1 rfl rfl (Nat.le_of_ble_eq_true rfl) ?_
  refine g_iconst (q := 3) dL_waitAt_2 rfl ⟨by decide, by decide⟩ ?_
  refine g_istore (q := 5) dL_waitAt_3 rfl (Nat.le_of_ble_eq_true rfl) ?_
  exact l_L_waitAt hO ⟨rfl, rfl⟩ c 0 0 (by omega) rfl
/-- where number i is by firm f's row -/
def y_iw (T : zS) (f i : Int) : Int := if zdig (T.2.2 f) i = 6 ∨ T.2.1 7 (i / 3) = -1 then T.2.1 7 (i / 3) else zdig (T.2.2 f) i
def yT (T : zS) : Prop := ∀ f : Int, 0 ≤ f → f < 6 → 0 ≤ T.2.2 f ∧ T.2.2 f < 68719476736
theorem s_L_isWith {T : zS} {f i : Int} (hf : 0 ≤ f ∧ f < 6) (hi : 0 ≤ i ∧ i < 12) (hT : yT T) : z_Fn mL_isWith [zI f, zI i, zR 7, zR 48] T (some (zI (y_iw T f i))) T := by
  have ht := hT f hf.1 hf.2
  have hd := zdig_rng (t := T.2.2 f) (i := i) ht hi
  refine z_enter (by decide +kernel) rfl (z_n1 trivial (z_n1 trivial (z_n1 trivial (z_n1 trivial z_n0)))) (Nat.le_of_ble_eq_true rfl) ?_
  refine g_aload_n (i := 3) (q := 1) dL_isWith_0 rfl rfl rfl ?_
  refine g_iload_n (i := 0) (q := 2) dL_isWith_1 rfl rfl rfl ?_
  refine g_lald (q := 3) dL_isWith_2 rfl (by omega) (by omega) ?_
  refine g_iconst (q := 4) dL_isWith_3 rfl ⟨by decide, by decide⟩ ?_
  refine g_iload_n (i := 1) (q := 5) dL_isWith_4 rfl rfl rfl ?_
  refine g_imul (q := 6) dL_isWith_5 rfl (by constructor <;> omega) ?_
  refine g_lshrv (q := 7) (z := zLshr (T.2.2 f) (3 * i)) dL_isWith_6 rfl (rfl) ?_
  refine g_ldc2 (z := 7) (q := 10) dL_isWith_7 rfl (z_big_of (by decide +kernel) rfl) (by constructor <;> decide) ?_
  refine g_landv (q := 11) (z := zdig (T.2.2 f) i) dL_isWith_10 rfl (rfl) ?_
  refine g_l2iv (q := 12) (z := zdig (T.2.2 f) i) dL_isWith_11 rfl rfl (by constructor <;> omega) ?_
  refine g_istore (q := 14) dL_isWith_12 rfl (Nat.le_of_ble_eq_true rfl) ?_
  refine g_iload (q := 16) dL_isWith_14 rfl rfl ?_
  refine g_bipush (q := 18) dL_isWith_16 rfl ⟨by decide, by decide⟩ (by decide) ?_
  refine g_icmp_eq (t := 30) (q := 21) dL_isWith_18 (by decide) rfl (fun h18 => ?_) (fun h18 => ?_)
  · refine g_aload_n (i := 2) (q := 31) dL_isWith_30 rfl rfl rfl ?_
    refine g_iload_n (i := 1) (q := 32) dL_isWith_31 rfl rfl rfl ?_
    refine g_iconst (q := 33) dL_isWith_32 rfl ⟨by decide, by decide⟩ ?_
    refine g_idiv (q := 34) dL_isWith_33 rfl (by omega) (by omega) ?_
    refine g_ildv (q := 35) (z := T.2.1 7 (i / 3)) dL_isWith_34 rfl ⟨by decide, rfl, rfl⟩ (by omega) (by omega) rfl ?_
    refine g_goto (q := 0) (t := 40) dL_isWith_35 (by decide) ?_
    exact g_ret dL_isWith_40 rfl (by decide) ⟨by unfold y_iw; first | rw [if_pos (by omega)] | rw [if_neg (by omega)], rfl⟩
  · refine g_aload_n (i := 2) (q := 22) dL_isWith_21 rfl rfl rfl ?_
    refine g_iload_n (i := 1) (q := 23) dL_isWith_22 rfl rfl rfl ?_
    refine g_iconst (q := 24) dL_isWith_23 rfl ⟨by decide, by decide⟩ ?_
    refine g_idiv (q := 25) dL_isWith_24 rfl (by omega) (by omega) ?_
    refine g_ildv (q := 26) (z := T.2.1 7 (i / 3)) dL_isWith_25 rfl ⟨by decide, rfl, rfl⟩ (by omega) (by omega) rfl ?_
    refine g_iconst (q := 27) dL_isWith_26 rfl ⟨by decide, by decide⟩ ?_
    refine g_icmp_ne (t := 38) (q := 30) dL_isWith_27 (by decide) rfl (fun h27 => ?_) (fun h27 => ?_)
    · refine g_iload (q := 40) dL_isWith_38 rfl rfl ?_
      exact g_ret dL_isWith_40 rfl (by decide) ⟨by unfold y_iw; first | rw [if_pos (by omega)] | rw [if_neg (by omega)], rfl⟩
    · refine g_aload_n (i := 2) (q := 31) dL_isWith_30 rfl rfl rfl ?_
      refine g_iload_n (i := 1) (q := 32) dL_isWith_31 rfl rfl rfl ?_
      refine g_iconst (q := 33) dL_isWith_32 rfl ⟨by decide, by decide⟩ ?_
      refine g_idiv (q := 34) dL_isWith_33 rfl (by omega) (by omega) ?_
      refine g_ildv (q := 35) (z := T.2.1 7 (i / 3)) dL_isWith_34 rfl ⟨by decide, rfl, rfl⟩ (by omega) (by omega) rfl ?_
      refine g_goto (q := 0) (t := 40) dL_isWith_35 (by decide) ?_
      exact g_ret dL_isWith_40 rfl (by decide) ⟨by unfold y_iw; first | rw [if_pos (by omega)] | rw [if_neg (by omega)], rfl⟩
/-- another firm serves a number: the law's rows -/
def y_gt (T : zS) (i f : Int) : zS := z_sA (z_sA (z_sA T 40 i f) 47 2 (T.2.1 47 2 + 1)) 44 (T.2.1 47 2) (T.2.1 47 0 + i * 16384 + (if T.2.1 7 (i / 3) = f then 6 else f) * 262144)
theorem s_L_goesTo {T : zS} {i f : Int} (hi : 0 ≤ i ∧ i < 12) (hf : 0 ≤ f ∧ f < 6) (hg : 0 ≤ T.2.1 47 2 ∧ T.2.1 47 2 < 64) (hn : 0 ≤ T.2.1 47 0 ∧ T.2.1 47 0 ≤ 9999) : z_Fn mL_goesTo [zI i, zI f, zR 7, zR 40, zR 44, zR 47] T none (y_gt T i f) := by
  refine z_enter (by decide +kernel) rfl (z_n1 trivial (z_n1 trivial (z_n1 trivial (z_n1 trivial (z_n1 trivial (z_n1 trivial z_n0)))))) (Nat.le_of_ble_eq_true rfl) ?_
  unfold y_gt
  by_cases e : T.2.1 7 (i / 3) = f
  · rw [if_pos e]
    refine g_aload_n (i := 3) (q := 1) dL_goesTo_0 rfl rfl rfl ?_
    refine g_iload_n (i := 0) (q := 2) dL_goesTo_1 rfl rfl rfl ?_
    refine g_iload_n (i := 1) (q := 3) dL_goesTo_2 rfl rfl rfl ?_
    refine g_iast (q := 4) dL_goesTo_3 rfl ⟨by decide, rfl, rfl⟩ (by omega) (by omega) ?_
    refine g_aload (q := 6) dL_goesTo_4 rfl rfl ?_
    refine g_aload (q := 8) dL_goesTo_6 rfl rfl ?_
    refine g_iconst (q := 9) dL_goesTo_8 rfl ⟨by decide, by decide⟩ ?_
    refine g_dup2 (q := 10) dL_goesTo_9 rfl trivial trivial ?_
    refine g_ildv (q := 11) (z := T.2.1 47 2) dL_goesTo_10 rfl ⟨by decide, rfl, rfl⟩ (by omega) (by omega) rfl ?_
    refine g_dup_x2 (q := 12) dL_goesTo_11 rfl trivial trivial trivial ?_
    refine g_iconst (q := 13) dL_goesTo_12 rfl ⟨by decide, by decide⟩ ?_
    refine g_iadd (q := 14) dL_goesTo_13 rfl (by constructor <;> omega) ?_
    refine g_iast (q := 15) dL_goesTo_14 rfl ⟨by decide, rfl, rfl⟩ (by omega) (by omega) ?_
    refine g_aload (q := 17) dL_goesTo_15 rfl rfl ?_
    refine g_iconst (q := 18) dL_goesTo_17 rfl ⟨by decide, by decide⟩ ?_
    refine g_ildv (q := 19) (z := T.2.1 47 0) dL_goesTo_18 rfl ⟨by decide, rfl, rfl⟩ (by omega) (by omega) rfl ?_
    refine g_iload_n (i := 0) (q := 20) dL_goesTo_19 rfl rfl rfl ?_
    refine g_bipush (q := 22) dL_goesTo_20 rfl ⟨by decide, by decide⟩ (by decide) ?_
    refine g_ishlv (q := 23) (z := i * 16384) dL_goesTo_22 rfl (zShl_p 14 (by decide) (by decide) (by omega) (by omega)) ?_
    refine g_iorv (q := 24) (z := T.2.1 47 0 + i * 16384) dL_goesTo_23 rfl (zOr_q (p := 16384) 14 (by decide) (by omega) (by omega) (by omega) (by omega) (by omega)) ?_
    refine g_aload_n (i := 2) (q := 25) dL_goesTo_24 rfl rfl rfl ?_
    refine g_iload_n (i := 0) (q := 26) dL_goesTo_25 rfl rfl rfl ?_
    refine g_iconst (q := 27) dL_goesTo_26 rfl ⟨by decide, by decide⟩ ?_
    refine g_idiv (q := 28) dL_goesTo_27 rfl (by omega) (by omega) ?_
    refine g_ildv (q := 29) (z := T.2.1 7 (i / 3)) dL_goesTo_28 rfl ⟨by decide, rfl, rfl⟩ (by omega) (by omega) rfl ?_
    refine g_iload_n (i := 1) (q := 30) dL_goesTo_29 rfl rfl rfl ?_
    refine g_icmp_ne (t := 38) (q := 33) dL_goesTo_30 (by decide) rfl (fun h30 => (False.elim (by omega))) (fun h30 => ?_)
    refine g_bipush (q := 35) dL_goesTo_33 rfl ⟨by decide, by decide⟩ (by decide) ?_
    refine g_goto (q := 0) (t := 39) dL_goesTo_35 (by decide) ?_
    refine g_bipush (q := 41) dL_goesTo_39 rfl ⟨by decide, by decide⟩ (by decide) ?_
    refine g_ishlv (q := 42) (z := 6 * 262144) dL_goesTo_41 rfl (zShl_p 18 (by decide) (by decide) (by omega) (by omega)) ?_
    refine g_iorv (q := 43) (z := T.2.1 47 0 + i * 16384 + 6 * 262144) dL_goesTo_42 rfl (zOr_q (p := 262144) 18 (by decide) (by omega) (by omega) (by omega) (by omega) (by omega)) ?_
    refine g_iast (q := 44) dL_goesTo_43 rfl ⟨by decide, rfl, rfl⟩ (by omega) (by omega) ?_
    exact g_retv dL_goesTo_44 rfl (by decide) (by first | exact ⟨rfl, rfl⟩ | (exfalso; omega))
  · rw [if_neg e]
    refine g_aload_n (i := 3) (q := 1) dL_goesTo_0 rfl rfl rfl ?_
    refine g_iload_n (i := 0) (q := 2) dL_goesTo_1 rfl rfl rfl ?_
    refine g_iload_n (i := 1) (q := 3) dL_goesTo_2 rfl rfl rfl ?_
    refine g_iast (q := 4) dL_goesTo_3 rfl ⟨by decide, rfl, rfl⟩ (by omega) (by omega) ?_
    refine g_aload (q := 6) dL_goesTo_4 rfl rfl ?_
    refine g_aload (q := 8) dL_goesTo_6 rfl rfl ?_
    refine g_iconst (q := 9) dL_goesTo_8 rfl ⟨by decide, by decide⟩ ?_
    refine g_dup2 (q := 10) dL_goesTo_9 rfl trivial trivial ?_
    refine g_ildv (q := 11) (z := T.2.1 47 2) dL_goesTo_10 rfl ⟨by decide, rfl, rfl⟩ (by omega) (by omega) rfl ?_
    refine g_dup_x2 (q := 12) dL_goesTo_11 rfl trivial trivial trivial ?_
    refine g_iconst (q := 13) dL_goesTo_12 rfl ⟨by decide, by decide⟩ ?_
    refine g_iadd (q := 14) dL_goesTo_13 rfl (by constructor <;> omega) ?_
    refine g_iast (q := 15) dL_goesTo_14 rfl ⟨by decide, rfl, rfl⟩ (by omega) (by omega) ?_
    refine g_aload (q := 17) dL_goesTo_15 rfl rfl ?_
    refine g_iconst (q := 18) dL_goesTo_17 rfl ⟨by decide, by decide⟩ ?_
    refine g_ildv (q := 19) (z := T.2.1 47 0) dL_goesTo_18 rfl ⟨by decide, rfl, rfl⟩ (by omega) (by omega) rfl ?_
    refine g_iload_n (i := 0) (q := 20) dL_goesTo_19 rfl rfl rfl ?_
    refine g_bipush (q := 22) dL_goesTo_20 rfl ⟨by decide, by decide⟩ (by decide) ?_
    refine g_ishlv (q := 23) (z := i * 16384) dL_goesTo_22 rfl (zShl_p 14 (by decide) (by decide) (by omega) (by omega)) ?_
    refine g_iorv (q := 24) (z := T.2.1 47 0 + i * 16384) dL_goesTo_23 rfl (zOr_q (p := 16384) 14 (by decide) (by omega) (by omega) (by omega) (by omega) (by omega)) ?_
    refine g_aload_n (i := 2) (q := 25) dL_goesTo_24 rfl rfl rfl ?_
    refine g_iload_n (i := 0) (q := 26) dL_goesTo_25 rfl rfl rfl ?_
    refine g_iconst (q := 27) dL_goesTo_26 rfl ⟨by decide, by decide⟩ ?_
    refine g_idiv (q := 28) dL_goesTo_27 rfl (by omega) (by omega) ?_
    refine g_ildv (q := 29) (z := T.2.1 7 (i / 3)) dL_goesTo_28 rfl ⟨by decide, rfl, rfl⟩ (by omega) (by omega) rfl ?_
    refine g_iload_n (i := 1) (q := 30) dL_goesTo_29 rfl rfl rfl ?_
    refine g_icmp_ne (t := 38) (q := 33) dL_goesTo_30 (by decide) rfl (fun h30 => ?_) (fun h30 => (False.elim (by omega)))
    refine g_iload_n (i := 1) (q := 39) dL_goesTo_38 rfl rfl rfl ?_
    refine g_bipush (q := 41) dL_goesTo_39 rfl ⟨by decide, by decide⟩ (by decide) ?_
    refine g_ishlv (q := 42) (z := f * 262144) dL_goesTo_41 rfl (zShl_p 18 (by decide) (by decide) (by omega) (by omega)) ?_
    refine g_iorv (q := 43) (z := T.2.1 47 0 + i * 16384 + f * 262144) dL_goesTo_42 rfl (zOr_q (p := 262144) 18 (by decide) (by omega) (by omega) (by omega) (by omega) (by omega)) ?_
    refine g_iast (q := 44) dL_goesTo_43 rfl ⟨by decide, rfl, rfl⟩ (by omega) (by omega) ?_
    exact g_retv dL_goesTo_44 rfl (by decide) (by first | exact ⟨rfl, rfl⟩ | (exfalso; omega))
