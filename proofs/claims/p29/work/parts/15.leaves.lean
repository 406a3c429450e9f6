/-! ===== Centre, Contracts, Firms, History, Route ===== -/
def x_chg (S : zS) (m n p : Int) : zS := z_sS (z_sA (z_sA (z_sA S 25 (S.1 2) m) 26 (S.1 2) n) 27 (S.1 2) p) 2 (S.1 2 + 1)
theorem s_X0_add {S : zS} {m n p : Int} (h0 : 0 ≤ S.1 2) (h1 : S.1 2 < 600) : z_Fn mX0_add [zR 4, zI m, zI n, zI p] S none (x_chg S m n p) := by
  refine z_enter (by decide +kernel) rfl (z_n1 trivial (z_n1 trivial (z_n1 trivial (z_n1 trivial z_n0)))) (Nat.le_of_ble_eq_true rfl) ?_
  refine g_aload_n (i := 0) (q := 1) dX0_add_0 rfl rfl rfl ?_
  refine g_getv (q := 4) (z := S.1 2) dX0_add_1 rfl fk_X0_21 rfl rfl rfl ?_
  refine g_sipush (q := 7) dX0_add_4 rfl ⟨by decide, by decide⟩ (by decide) ?_
  refine g_icmp_ge (t := 50) (q := 10) dX0_add_7 (by decide) rfl (fun h7 => (False.elim (by omega))) (fun h7 => ?_)
  refine g_aload_n (i := 0) (q := 11) dX0_add_10 rfl rfl rfl ?_
  refine g_getr (q := 14) dX0_add_11 rfl fk_X0_11 rfl rfl ?_
  refine g_aload_n (i := 0) (q := 15) dX0_add_14 rfl rfl rfl ?_
  refine g_getv (q := 18) (z := S.1 2) dX0_add_15 rfl fk_X0_21 rfl rfl rfl ?_
  refine g_iload_n (i := 1) (q := 19) dX0_add_18 rfl rfl rfl ?_
  refine g_iast (q := 20) dX0_add_19 rfl ⟨by decide, rfl, rfl⟩ (by omega) (by omega) ?_
  refine g_aload_n (i := 0) (q := 21) dX0_add_20 rfl rfl rfl ?_
  refine g_getr (q := 24) dX0_add_21 rfl fk_X0_15 rfl rfl ?_
  refine g_aload_n (i := 0) (q := 25) dX0_add_24 rfl rfl rfl ?_
  refine g_getv (q := 28) (z := S.1 2) dX0_add_25 rfl fk_X0_21 rfl rfl rfl ?_
  refine g_iload_n (i := 2) (q := 29) dX0_add_28 rfl rfl rfl ?_
  refine g_iast (q := 30) dX0_add_29 rfl ⟨by decide, rfl, rfl⟩ (by omega) (by omega) ?_
  refine g_aload_n (i := 0) (q := 31) dX0_add_30 rfl rfl rfl ?_
  refine g_getr (q := 34) dX0_add_31 rfl fk_X0_18 rfl rfl ?_
  refine g_aload_n (i := 0) (q := 35) dX0_add_34 rfl rfl rfl ?_
  refine g_getv (q := 38) (z := S.1 2) dX0_add_35 rfl fk_X0_21 rfl rfl rfl ?_
  refine g_iload_n (i := 3) (q := 39) dX0_add_38 rfl rfl rfl ?_
  refine g_iast (q := 40) dX0_add_39 rfl ⟨by decide, rfl, rfl⟩ (by omega) (by omega) ?_
  refine g_aload_n (i := 0) (q := 41) dX0_add_40 rfl rfl rfl ?_
  refine g_dup (q := 42) dX0_add_41 rfl trivial ?_
  refine g_getv (q := 45) (z := S.1 2) dX0_add_42 rfl fk_X0_21 rfl rfl rfl ?_
  refine g_iconst (q := 46) dX0_add_45 rfl ⟨by decide, by decide⟩ ?_
  refine g_iadd (q := 47) dX0_add_46 rfl (by constructor <;> omega) ?_
  refine g_put (q := 50) dX0_add_47 rfl fk_X0_21 fp_0_3 rfl rfl ?_
  exact g_retv dX0_add_50 rfl (by decide) (by first | exact ⟨rfl, rfl⟩ | (exfalso; omega))
theorem s_X0_countUnknown {S : zS} {f : Int} (hf : 0 ≤ f ∧ f < 6) (h0 : 0 ≤ S.1 2) (h1 : S.1 2 ≤ 600) (h2 : 0 ≤ S.2.1 28 f) (h3 : S.2.1 28 f ≤ 600) : z_Fn mX0_countUnknown [zR 4, zI f] S (some (zI (S.1 2 - S.2.1 28 f))) S := by
  refine z_enter (by decide +kernel) rfl (z_n1 trivial (z_n1 trivial z_n0)) (Nat.le_of_ble_eq_true rfl) ?_
  refine g_aload_n (i := 0) (q := 1) dX0_countUnknown_0 rfl rfl rfl ?_
  refine g_getv (q := 4) (z := S.1 2) dX0_countUnknown_1 rfl fk_X0_21 rfl rfl rfl ?_
  refine g_aload_n (i := 0) (q := 5) dX0_countUnknown_4 rfl rfl rfl ?_
  refine g_getr (q := 8) dX0_countUnknown_5 rfl fk_X0_25 rfl rfl ?_
  refine g_iload_n (i := 1) (q := 9) dX0_countUnknown_8 rfl rfl rfl ?_
  refine g_ildv (q := 10) (z := S.2.1 28 f) dX0_countUnknown_9 rfl ⟨by decide, rfl, rfl⟩ (by omega) (by omega) rfl ?_
  refine g_isub (q := 11) dX0_countUnknown_10 rfl (by constructor <;> omega) ?_
  exact g_ret dX0_countUnknown_11 rfl (by decide) (by first | exact ⟨rfl, rfl⟩ | (exfalso; omega))
def x_la (S : zS) (f : Int) : Nat → Nat → zS
  | a, 0 => z_sA S 28 f a
  | a, k + 1 => x_la (z_sA S (30 + f.toNat) (S.2.1 26 a) (S.2.1 27 a)) f (a + 1) k
theorem l_X0_learnAll {Q : zQ} {f : Int} {c : Nat} (hf : 0 ≤ f ∧ f < 6) (hc6 : c ≤ 600) : ∀ (k a : Nat) (S : zS), S.1 2 = c → (∀ j : Nat, j < c → 0 ≤ S.2.1 26 j ∧ S.2.1 26 j < 200) → a + k = c → Q (.ok none) (x_la S f a k) → z_G mX0_learnAll (z_F mX0_learnAll Q) 0 7 [some (zR 4), some (zI f), some (zI (a : Int))] [] S := by
  intro k
  induction k with
  | zero =>
    intro a S hc hn ha hQ
    refine g_iload_n (i := 2) (q := 8) dX0_learnAll_7 rfl rfl rfl ?_
    refine g_aload_n (i := 0) (q := 9) dX0_learnAll_8 rfl rfl rfl ?_
    refine g_getv (q := 12) (z := S.1 2) dX0_learnAll_9 rfl fk_X0_21 rfl rfl rfl ?_
    refine g_icmp_ge (t := 40) (q := 15) dX0_learnAll_12 (by decide) rfl (fun h12 => ?_) (fun h12 => (False.elim (by omega)))
    refine g_aload_n (i := 0) (q := 41) dX0_learnAll_40 rfl rfl rfl ?_
    refine g_getr (q := 44) dX0_learnAll_41 rfl fk_X0_25 rfl rfl ?_
    refine g_iload_n (i := 1) (q := 45) dX0_learnAll_44 rfl rfl rfl ?_
    refine g_aload_n (i := 0) (q := 46) dX0_learnAll_45 rfl rfl rfl ?_
    refine g_getv (q := 49) (z := S.1 2) dX0_learnAll_46 rfl fk_X0_21 rfl rfl rfl ?_
    refine g_iast (q := 50) dX0_learnAll_49 rfl ⟨by decide, rfl, rfl⟩ (by omega) (by omega) ?_
    exact g_retv dX0_learnAll_50 rfl (by decide) (by rw [x_la] at hQ; rw [hc, ← ha]; exact hQ)
  | succ k ih =>
    intro a S hc hn ha hQ
    have hna := hn a (by omega)
    rw [x_la] at hQ
    refine g_iload_n (i := 2) (q := 8) dX0_learnAll_7 rfl rfl rfl ?_
    refine g_aload_n (i := 0) (q := 9) dX0_learnAll_8 rfl rfl rfl ?_
    refine g_getv (q := 12) (z := S.1 2) dX0_learnAll_9 rfl fk_X0_21 rfl rfl rfl ?_
    refine g_icmp_ge (t := 40) (q := 15) dX0_learnAll_12 (by decide) rfl (fun h12 => (False.elim (by omega))) (fun h12 => ?_)
    refine g_aload_n (i := 0) (q := 16) dX0_learnAll_15 rfl rfl rfl ?_
    refine g_getr (q := 19) dX0_learnAll_16 rfl fk_X0_30 rfl rfl ?_
    refine g_iload_n (i := 1) (q := 20) dX0_learnAll_19 rfl rfl rfl ?_
    refine g_aald (q := 21) dX0_learnAll_20 rfl (by omega) (by omega) ?_
    refine g_aload_n (i := 0) (q := 22) dX0_learnAll_21 rfl rfl rfl ?_
    refine g_getr (q := 25) dX0_learnAll_22 rfl fk_X0_15 rfl rfl ?_
    refine g_iload_n (i := 2) (q := 26) dX0_learnAll_25 rfl rfl rfl ?_
    refine g_ildv (q := 27) (z := S.2.1 26 (a : Int)) dX0_learnAll_26 rfl ⟨by decide, rfl, rfl⟩ (by omega) (by omega) rfl ?_
    refine g_aload_n (i := 0) (q := 28) dX0_learnAll_27 rfl rfl rfl ?_
    refine g_getr (q := 31) dX0_learnAll_28 rfl fk_X0_18 rfl rfl ?_
    refine g_iload_n (i := 2) (q := 32) dX0_learnAll_31 rfl rfl rfl ?_
    refine g_ildv (q := 33) (z := S.2.1 27 (a : Int)) dX0_learnAll_32 rfl ⟨by decide, rfl, rfl⟩ (by omega) (by omega) rfl ?_
    refine g_iast (q := 34) dX0_learnAll_33 rfl (z_row (by omega) (by omega)) (by omega) (by omega) ?_
    refine g_iinc (q := 37) (i := 2) (n := 1) dX0_learnAll_34 rfl rfl (by constructor <;> omega) ?_
    refine g_goto (q := 0) (t := 7) dX0_learnAll_37 (by decide) ?_
    exact ih (a + 1) _ hc (fun j hj => by rw [za_ne (by omega)]; exact hn j hj) (by omega) hQ
theorem s_X0_learnAll {S : zS} {f : Int} {c a : Nat} (hf : 0 ≤ f ∧ f < 6) (hc : S.1 2 = c) (hc6 : c ≤ 600) (ha : S.2.1 28 f = a) (hac : a ≤ c) (hn : ∀ j : Nat, j < c → 0 ≤ S.2.1 26 j ∧ S.2.1 26 j < 200) : z_Fn mX0_learnAll [zR 4, zI f] S none (x_la S f a (c - a)) := by
  refine z_enter (by decide +kernel) rfl (z_n1 trivial (z_n1 trivial z_n0)) (Nat.le_of_ble_eq_true rfl) ?_
  refine g_aload_n (i := 0) (q := 1) dX0_learnAll_0 rfl rfl rfl ?_
  refine g_getr (q := 4) dX0_learnAll_1 rfl fk_X0_25 rfl rfl ?_
  refine g_iload_n (i := 1) (q := 5) dX0_learnAll_4 rfl rfl rfl ?_
  refine g_ildv (q := 6) (z := (a : Int)) dX0_learnAll_5 rfl ⟨by decide, rfl, rfl⟩ (by omega) (by omega) ha ?_
  refine g_istore_n (i := 2) (q := 7) dX0_learnAll_6 rfl rfl (by decide) ?_
  exact l_X0_learnAll hf hc6 (c - a) a S hc hn (by omega) ⟨rfl, rfl⟩
def x_lu (S : zS) (f m : Int) : Nat → Nat → zS
  | a, 0 => z_sA S 28 f a
  | a, k + 1 => if S.2.1 25 a ≤ m then x_lu (z_sA S (30 + f.toNat) (S.2.1 26 a) (S.2.1 27 a)) f m (a + 1) k else z_sA S 28 f a
theorem l_X0_learnUpTo {Q : zQ} {f m : Int} {c : Nat} (hf : 0 ≤ f ∧ f < 6) (hc6 : c ≤ 600) : ∀ (k a : Nat) (S : zS), S.1 2 = c → (∀ j : Nat, j < c → 0 ≤ S.2.1 26 j ∧ S.2.1 26 j < 200) → a + k = c → Q (.ok none) (x_lu S f m a k) → z_G mX0_learnUpTo (z_F mX0_learnUpTo Q) 0 7 [some (zR 4), some (zI f), some (zI m), some (zI (a : Int))] [] S := by
  intro k
  induction k with
  | zero =>
    intro a S hc hn ha hQ
    refine g_iload_n (i := 3) (q := 8) dX0_learnUpTo_7 rfl rfl rfl ?_
    refine g_aload_n (i := 0) (q := 9) dX0_learnUpTo_8 rfl rfl rfl ?_
    refine g_getv (q := 12) (z := S.1 2) dX0_learnUpTo_9 rfl fk_X0_21 rfl rfl rfl ?_
    refine g_icmp_ge (t := 50) (q := 15) dX0_learnUpTo_12 (by decide) rfl (fun h12 => ?_) (fun h12 => (False.elim (by omega)))
    refine g_aload_n (i := 0) (q := 51) dX0_learnUpTo_50 rfl rfl rfl ?_
    refine g_getr (q := 54) dX0_learnUpTo_51 rfl fk_X0_25 rfl rfl ?_
    refine g_iload_n (i := 1) (q := 55) dX0_learnUpTo_54 rfl rfl rfl ?_
    refine g_iload_n (i := 3) (q := 56) dX0_learnUpTo_55 rfl rfl rfl ?_
    refine g_iast (q := 57) dX0_learnUpTo_56 rfl ⟨by decide, rfl, rfl⟩ (by omega) (by omega) ?_
    exact g_retv dX0_learnUpTo_57 rfl (by decide) hQ
  | succ k ih =>
    intro a S hc hn ha hQ
    have hna := hn a (by omega)
    rw [x_lu] at hQ
    refine g_iload_n (i := 3) (q := 8) dX0_learnUpTo_7 rfl rfl rfl ?_
    refine g_aload_n (i := 0) (q := 9) dX0_learnUpTo_8 rfl rfl rfl ?_
    refine g_getv (q := 12) (z := S.1 2) dX0_learnUpTo_9 rfl fk_X0_21 rfl rfl rfl ?_
    refine g_icmp_ge (t := 50) (q := 15) dX0_learnUpTo_12 (by decide) rfl (fun h12 => (False.elim (by omega))) (fun h12 => ?_)
    refine g_aload_n (i := 0) (q := 16) dX0_learnUpTo_15 rfl rfl rfl ?_
    refine g_getr (q := 19) dX0_learnUpTo_16 rfl fk_X0_11 rfl rfl ?_
    refine g_iload_n (i := 3) (q := 20) dX0_learnUpTo_19 rfl rfl rfl ?_
    refine g_ildv (q := 21) (z := S.2.1 25 (a : Int)) dX0_learnUpTo_20 rfl ⟨by decide, rfl, rfl⟩ (by omega) (by omega) rfl ?_
    refine g_iload_n (i := 2) (q := 22) dX0_learnUpTo_21 rfl rfl rfl ?_
    refine g_icmp_gt (t := 50) (q := 25) dX0_learnUpTo_22 (by decide) rfl (fun h22 => ?_) (fun h22 => ?_)
    · refine g_aload_n (i := 0) (q := 51) dX0_learnUpTo_50 rfl rfl rfl ?_
      refine g_getr (q := 54) dX0_learnUpTo_51 rfl fk_X0_25 rfl rfl ?_
      refine g_iload_n (i := 1) (q := 55) dX0_learnUpTo_54 rfl rfl rfl ?_
      refine g_iload_n (i := 3) (q := 56) dX0_learnUpTo_55 rfl rfl rfl ?_
      refine g_iast (q := 57) dX0_learnUpTo_56 rfl ⟨by decide, rfl, rfl⟩ (by omega) (by omega) ?_
      exact g_retv dX0_learnUpTo_57 rfl (by decide) (by rw [if_neg (by omega)] at hQ; exact hQ)
    · refine g_aload_n (i := 0) (q := 26) dX0_learnUpTo_25 rfl rfl rfl ?_
      refine g_getr (q := 29) dX0_learnUpTo_26 rfl fk_X0_30 rfl rfl ?_
      refine g_iload_n (i := 1) (q := 30) dX0_learnUpTo_29 rfl rfl rfl ?_
      refine g_aald (q := 31) dX0_learnUpTo_30 rfl (by omega) (by omega) ?_
      refine g_aload_n (i := 0) (q := 32) dX0_learnUpTo_31 rfl rfl rfl ?_
      refine g_getr (q := 35) dX0_learnUpTo_32 rfl fk_X0_15 rfl rfl ?_
      refine g_iload_n (i := 3) (q := 36) dX0_learnUpTo_35 rfl rfl rfl ?_
      refine g_ildv (q := 37) (z := S.2.1 26 (a : Int)) dX0_learnUpTo_36 rfl ⟨by decide, rfl, rfl⟩ (by omega) (by omega) rfl ?_
      refine g_aload_n (i := 0) (q := 38) dX0_learnUpTo_37 rfl rfl rfl ?_
      refine g_getr (q := 41) dX0_learnUpTo_38 rfl fk_X0_18 rfl rfl ?_
      refine g_iload_n (i := 3) (q := 42) dX0_learnUpTo_41 rfl rfl rfl ?_
      refine g_ildv (q := 43) (z := S.2.1 27 (a : Int)) dX0_learnUpTo_42 rfl ⟨by decide, rfl, rfl⟩ (by omega) (by omega) rfl ?_
      refine g_iast (q := 44) dX0_learnUpTo_43 rfl (z_row (by omega) (by omega)) (by omega) (by omega) ?_
      refine g_iinc (q := 47) (i := 3) (n := 1) dX0_learnUpTo_44 rfl rfl (by constructor <;> omega) ?_
      refine g_goto (q := 0) (t := 7) dX0_learnUpTo_47 (by decide) ?_
      exact ih (a + 1) _ hc (fun j hj => by rw [za_ne (by omega)]; exact hn j hj) (by omega) (by rw [if_pos (by omega)] at hQ; exact hQ)
theorem s_X0_learnUpTo {S : zS} {f m : Int} {c a : Nat} (hf : 0 ≤ f ∧ f < 6) (hc : S.1 2 = c) (hc6 : c ≤ 600) (ha : S.2.1 28 f = a) (hac : a ≤ c) (hn : ∀ j : Nat, j < c → 0 ≤ S.2.1 26 j ∧ S.2.1 26 j < 200) : z_Fn mX0_learnUpTo [zR 4, zI f, zI m] S none (x_lu S f m a (c - a)) := by
  refine z_enter (by decide +kernel) rfl (z_n1 trivial (z_n1 trivial (z_n1 trivial z_n0))) (Nat.le_of_ble_eq_true rfl) ?_
  refine g_aload_n (i := 0) (q := 1) dX0_learnUpTo_0 rfl rfl rfl ?_
  refine g_getr (q := 4) dX0_learnUpTo_1 rfl fk_X0_25 rfl rfl ?_
  refine g_iload_n (i := 1) (q := 5) dX0_learnUpTo_4 rfl rfl rfl ?_
  refine g_ildv (q := 6) (z := (a : Int)) dX0_learnUpTo_5 rfl ⟨by decide, rfl, rfl⟩ (by omega) (by omega) ha ?_
  refine g_istore_n (i := 3) (q := 7) dX0_learnUpTo_6 rfl rfl (by decide) ?_
  exact l_X0_learnUpTo hf hc6 (c - a) a S hc hn (by omega) ⟨rfl, rfl⟩
-- Contracts
theorem s_X1_isInUse_t {S : zS} {n : Int} (hn : 0 ≤ n ∧ n < 200) (h : ¬ S.2.1 13 n = -1) : z_Fn mX1_isInUse [zR 2, zI n] S (some (zI 1)) S := by
  refine z_enter (by decide +kernel) rfl (z_n1 trivial (z_n1 trivial z_n0)) (Nat.le_of_ble_eq_true rfl) ?_
  refine g_aload_n (i := 0) (q := 1) dX1_isInUse_0 rfl rfl rfl ?_
  refine g_getr (q := 4) dX1_isInUse_1 rfl fk_X1_9 rfl rfl ?_
  refine g_iload_n (i := 1) (q := 5) dX1_isInUse_4 rfl rfl rfl ?_
  refine g_ildv (q := 6) (z := S.2.1 13 n) dX1_isInUse_5 rfl ⟨by decide, rfl, rfl⟩ (by omega) (by omega) rfl ?_
  refine g_iconst (q := 7) dX1_isInUse_6 rfl ⟨by decide, by decide⟩ ?_
  refine g_icmp_eq (t := 14) (q := 10) dX1_isInUse_7 (by decide) rfl (fun h7 => (False.elim (by omega))) (fun h7 => ?_)
  refine g_iconst (q := 11) dX1_isInUse_10 rfl ⟨by decide, by decide⟩ ?_
  refine g_goto (q := 0) (t := 15) dX1_isInUse_11 (by decide) ?_
  exact g_retz dX1_isInUse_15 rfl (by omega) (by decide) (by first | exact ⟨rfl, rfl⟩ | (exfalso; omega))
theorem s_X1_isInUse_f {S : zS} {n : Int} (hn : 0 ≤ n ∧ n < 200) (h : S.2.1 13 n = -1) : z_Fn mX1_isInUse [zR 2, zI n] S (some (zI 0)) S := by
  refine z_enter (by decide +kernel) rfl (z_n1 trivial (z_n1 trivial z_n0)) (Nat.le_of_ble_eq_true rfl) ?_
  refine g_aload_n (i := 0) (q := 1) dX1_isInUse_0 rfl rfl rfl ?_
  refine g_getr (q := 4) dX1_isInUse_1 rfl fk_X1_9 rfl rfl ?_
  refine g_iload_n (i := 1) (q := 5) dX1_isInUse_4 rfl rfl rfl ?_
  refine g_ildv (q := 6) (z := S.2.1 13 n) dX1_isInUse_5 rfl ⟨by decide, rfl, rfl⟩ (by omega) (by omega) rfl ?_
  refine g_iconst (q := 7) dX1_isInUse_6 rfl ⟨by decide, by decide⟩ ?_
  refine g_icmp_eq (t := 14) (q := 10) dX1_isInUse_7 (by decide) rfl (fun h7 => ?_) (fun h7 => (False.elim (by omega)))
  refine g_iconst (q := 15) dX1_isInUse_14 rfl ⟨by decide, by decide⟩ ?_
  exact g_retz dX1_isInUse_15 rfl (by omega) (by decide) (by first | exact ⟨rfl, rfl⟩ | (exfalso; omega))
theorem s_X1_isInQuarantine_t {S : zS} {n m : Int} (hn : 0 ≤ n ∧ n < 200) (h : m ≤ S.2.1 15 n) : z_Fn mX1_isInQuarantine [zR 2, zI n, zI m] S (some (zI 1)) S := by
  refine z_enter (by decide +kernel) rfl (z_n1 trivial (z_n1 trivial (z_n1 trivial z_n0))) (Nat.le_of_ble_eq_true rfl) ?_
  refine g_iload_n (i := 2) (q := 1) dX1_isInQuarantine_0 rfl rfl rfl ?_
  refine g_aload_n (i := 0) (q := 2) dX1_isInQuarantine_1 rfl rfl rfl ?_
  refine g_getr (q := 5) dX1_isInQuarantine_2 rfl fk_X1_18 rfl rfl ?_
  refine g_iload_n (i := 1) (q := 6) dX1_isInQuarantine_5 rfl rfl rfl ?_
  refine g_ildv (q := 7) (z := S.2.1 15 n) dX1_isInQuarantine_6 rfl ⟨by decide, rfl, rfl⟩ (by omega) (by omega) rfl ?_
  refine g_icmp_gt (t := 14) (q := 10) dX1_isInQuarantine_7 (by decide) rfl (fun h7 => (False.elim (by omega))) (fun h7 => ?_)
  refine g_iconst (q := 11) dX1_isInQuarantine_10 rfl ⟨by decide, by decide⟩ ?_
  refine g_goto (q := 0) (t := 15) dX1_isInQuarantine_11 (by decide) ?_
  exact g_retz dX1_isInQuarantine_15 rfl (by omega) (by decide) (by first | exact ⟨rfl, rfl⟩ | (exfalso; omega))
theorem s_X1_isInQuarantine_f {S : zS} {n m : Int} (hn : 0 ≤ n ∧ n < 200) (h : ¬ m ≤ S.2.1 15 n) : z_Fn mX1_isInQuarantine [zR 2, zI n, zI m] S (some (zI 0)) S := by
  refine z_enter (by decide +kernel) rfl (z_n1 trivial (z_n1 trivial (z_n1 trivial z_n0))) (Nat.le_of_ble_eq_true rfl) ?_
  refine g_iload_n (i := 2) (q := 1) dX1_isInQuarantine_0 rfl rfl rfl ?_
  refine g_aload_n (i := 0) (q := 2) dX1_isInQuarantine_1 rfl rfl rfl ?_
  refine g_getr (q := 5) dX1_isInQuarantine_2 rfl fk_X1_18 rfl rfl ?_
  refine g_iload_n (i := 1) (q := 6) dX1_isInQuarantine_5 rfl rfl rfl ?_
  refine g_ildv (q := 7) (z := S.2.1 15 n) dX1_isInQuarantine_6 rfl ⟨by decide, rfl, rfl⟩ (by omega) (by omega) rfl ?_
  refine g_icmp_gt (t := 14) (q := 10) dX1_isInQuarantine_7 (by decide) rfl (fun h7 => ?_) (fun h7 => (False.elim (by omega)))
  refine g_iconst (q := 15) dX1_isInQuarantine_14 rfl ⟨by decide, by decide⟩ ?_
  exact g_retz dX1_isInQuarantine_15 rfl (by omega) (by decide) (by first | exact ⟨rfl, rfl⟩ | (exfalso; omega))
theorem s_X1_isSilent_t {S : zS} {n m : Int} (hn : 0 ≤ n ∧ n < 200) (h : m ≤ S.2.1 16 n) : z_Fn mX1_isSilent [zR 2, zI n, zI m] S (some (zI 1)) S := by
  refine z_enter (by decide +kernel) rfl (z_n1 trivial (z_n1 trivial (z_n1 trivial z_n0))) (Nat.le_of_ble_eq_true rfl) ?_
  refine g_iload_n (i := 2) (q := 1) dX1_isSilent_0 rfl rfl rfl ?_
  refine g_aload_n (i := 0) (q := 2) dX1_isSilent_1 rfl rfl rfl ?_
  refine g_getr (q := 5) dX1_isSilent_2 rfl fk_X1_21 rfl rfl ?_
  refine g_iload_n (i := 1) (q := 6) dX1_isSilent_5 rfl rfl rfl ?_
  refine g_ildv (q := 7) (z := S.2.1 16 n) dX1_isSilent_6 rfl ⟨by decide, rfl, rfl⟩ (by omega) (by omega) rfl ?_
  refine g_icmp_gt (t := 14) (q := 10) dX1_isSilent_7 (by decide) rfl (fun h7 => (False.elim (by omega))) (fun h7 => ?_)
  refine g_iconst (q := 11) dX1_isSilent_10 rfl ⟨by decide, by decide⟩ ?_
  refine g_goto (q := 0) (t := 15) dX1_isSilent_11 (by decide) ?_
  exact g_retz dX1_isSilent_15 rfl (by omega) (by decide) (by first | exact ⟨rfl, rfl⟩ | (exfalso; omega))
theorem s_X1_isSilent_f {S : zS} {n m : Int} (hn : 0 ≤ n ∧ n < 200) (h : ¬ m ≤ S.2.1 16 n) : z_Fn mX1_isSilent [zR 2, zI n, zI m] S (some (zI 0)) S := by
  refine z_enter (by decide +kernel) rfl (z_n1 trivial (z_n1 trivial (z_n1 trivial z_n0))) (Nat.le_of_ble_eq_true rfl) ?_
  refine g_iload_n (i := 2) (q := 1) dX1_isSilent_0 rfl rfl rfl ?_
  refine g_aload_n (i := 0) (q := 2) dX1_isSilent_1 rfl rfl rfl ?_
  refine g_getr (q := 5) dX1_isSilent_2 rfl fk_X1_21 rfl rfl ?_
  refine g_iload_n (i := 1) (q := 6) dX1_isSilent_5 rfl rfl rfl ?_
  refine g_ildv (q := 7) (z := S.2.1 16 n) dX1_isSilent_6 rfl ⟨by decide, rfl, rfl⟩ (by omega) (by omega) rfl ?_
  refine g_icmp_gt (t := 14) (q := 10) dX1_isSilent_7 (by decide) rfl (fun h7 => ?_) (fun h7 => (False.elim (by omega)))
  refine g_iconst (q := 15) dX1_isSilent_14 rfl ⟨by decide, by decide⟩ ?_
  exact g_retz dX1_isSilent_15 rfl (by omega) (by decide) (by first | exact ⟨rfl, rfl⟩ | (exfalso; omega))
theorem s_X1_mayBeCalledBack_t {S : zS} {n m : Int} (hn : 0 ≤ n ∧ n < 200) (h : m ≤ S.2.1 17 n) : z_Fn mX1_mayBeCalledBack [zR 2, zI n, zI m] S (some (zI 1)) S := by
  refine z_enter (by decide +kernel) rfl (z_n1 trivial (z_n1 trivial (z_n1 trivial z_n0))) (Nat.le_of_ble_eq_true rfl) ?_
  refine g_iload_n (i := 2) (q := 1) dX1_mayBeCalledBack_0 rfl rfl rfl ?_
  refine g_aload_n (i := 0) (q := 2) dX1_mayBeCalledBack_1 rfl rfl rfl ?_
  refine g_getr (q := 5) dX1_mayBeCalledBack_2 rfl fk_X1_24 rfl rfl ?_
  refine g_iload_n (i := 1) (q := 6) dX1_mayBeCalledBack_5 rfl rfl rfl ?_
  refine g_ildv (q := 7) (z := S.2.1 17 n) dX1_mayBeCalledBack_6 rfl ⟨by decide, rfl, rfl⟩ (by omega) (by omega) rfl ?_
  refine g_icmp_gt (t := 14) (q := 10) dX1_mayBeCalledBack_7 (by decide) rfl (fun h7 => (False.elim (by omega))) (fun h7 => ?_)
  refine g_iconst (q := 11) dX1_mayBeCalledBack_10 rfl ⟨by decide, by decide⟩ ?_
  refine g_goto (q := 0) (t := 15) dX1_mayBeCalledBack_11 (by decide) ?_
  exact g_retz dX1_mayBeCalledBack_15 rfl (by omega) (by decide) (by first | exact ⟨rfl, rfl⟩ | (exfalso; omega))
theorem s_X1_mayBeCalledBack_f {S : zS} {n m : Int} (hn : 0 ≤ n ∧ n < 200) (h : ¬ m ≤ S.2.1 17 n) : z_Fn mX1_mayBeCalledBack [zR 2, zI n, zI m] S (some (zI 0)) S := by
  refine z_enter (by decide +kernel) rfl (z_n1 trivial (z_n1 trivial (z_n1 trivial z_n0))) (Nat.le_of_ble_eq_true rfl) ?_
  refine g_iload_n (i := 2) (q := 1) dX1_mayBeCalledBack_0 rfl rfl rfl ?_
  refine g_aload_n (i := 0) (q := 2) dX1_mayBeCalledBack_1 rfl rfl rfl ?_
  refine g_getr (q := 5) dX1_mayBeCalledBack_2 rfl fk_X1_24 rfl rfl ?_
  refine g_iload_n (i := 1) (q := 6) dX1_mayBeCalledBack_5 rfl rfl rfl ?_
  refine g_ildv (q := 7) (z := S.2.1 17 n) dX1_mayBeCalledBack_6 rfl ⟨by decide, rfl, rfl⟩ (by omega) (by omega) rfl ?_
  refine g_icmp_gt (t := 14) (q := 10) dX1_mayBeCalledBack_7 (by decide) rfl (fun h7 => ?_) (fun h7 => (False.elim (by omega)))
  refine g_iconst (q := 15) dX1_mayBeCalledBack_14 rfl ⟨by decide, by decide⟩ ?_
  exact g_retz dX1_mayBeCalledBack_15 rfl (by omega) (by decide) (by first | exact ⟨rfl, rfl⟩ | (exfalso; omega))
theorem s_X1_begin {S : zS} {n f t : Int} (hn : 0 ≤ n ∧ n < 200) : z_Fn mX1_begin [zR 2, zI n, zI f, zI t] S none (z_sA (z_sA S 13 n f) 14 n t) := by
  refine z_enter (by decide +kernel) rfl (z_n1 trivial (z_n1 trivial (z_n1 trivial (z_n1 trivial z_n0)))) (Nat.le_of_ble_eq_true rfl) ?_
  refine g_aload_n (i := 0) (q := 1) dX1_begin_0 rfl rfl rfl ?_
  refine g_getr (q := 4) dX1_begin_1 rfl fk_X1_9 rfl rfl ?_
  refine g_iload_n (i := 1) (q := 5) dX1_begin_4 rfl rfl rfl ?_
  refine g_iload_n (i := 2) (q := 6) dX1_begin_5 rfl rfl rfl ?_
  refine g_iast (q := 7) dX1_begin_6 rfl ⟨by decide, rfl, rfl⟩ (by omega) (by omega) ?_
  refine g_aload_n (i := 0) (q := 8) dX1_begin_7 rfl rfl rfl ?_
  refine g_getr (q := 11) dX1_begin_8 rfl fk_X1_15 rfl rfl ?_
  refine g_iload_n (i := 1) (q := 12) dX1_begin_11 rfl rfl rfl ?_
  refine g_iload_n (i := 3) (q := 13) dX1_begin_12 rfl rfl rfl ?_
  refine g_iast (q := 14) dX1_begin_13 rfl ⟨by decide, rfl, rfl⟩ (by omega) (by omega) ?_
  exact g_retv dX1_begin_14 rfl (by decide) (by first | exact ⟨rfl, rfl⟩ | (exfalso; omega))
def x_fin (S : zS) (n m : Int) : zS := z_sA (z_sA (z_sA (z_sA (z_sA S 13 n (-1)) 15 n (m + 99)) 16 n (-1)) 17 n (-1)) 18 n (-1)
theorem s_X1_finish {S : zS} {n m : Int} (hn : 0 ≤ n ∧ n < 200) (hm : 0 ≤ m ∧ m < 20000) : z_Fn mX1_finish [zR 2, zI n, zI m] S none (x_fin S n m) := by
  refine z_enter (by decide +kernel) rfl (z_n1 trivial (z_n1 trivial (z_n1 trivial z_n0))) (Nat.le_of_ble_eq_true rfl) ?_
  refine g_aload_n (i := 0) (q := 1) dX1_finish_0 rfl rfl rfl ?_
  refine g_getr (q := 4) dX1_finish_1 rfl fk_X1_9 rfl rfl ?_
  refine g_iload_n (i := 1) (q := 5) dX1_finish_4 rfl rfl rfl ?_
  refine g_iconst (q := 6) dX1_finish_5 rfl ⟨by decide, by decide⟩ ?_
  refine g_iast (q := 7) dX1_finish_6 rfl ⟨by decide, rfl, rfl⟩ (by omega) (by omega) ?_
  refine g_aload_n (i := 0) (q := 8) dX1_finish_7 rfl rfl rfl ?_
  refine g_getr (q := 11) dX1_finish_8 rfl fk_X1_18 rfl rfl ?_
  refine g_iload_n (i := 1) (q := 12) dX1_finish_11 rfl rfl rfl ?_
  refine g_iload_n (i := 2) (q := 13) dX1_finish_12 rfl rfl rfl ?_
  refine g_bipush (q := 15) dX1_finish_13 rfl ⟨by decide, by decide⟩ (by decide) ?_
  refine g_iadd (q := 16) dX1_finish_15 rfl (by constructor <;> omega) ?_
  refine g_iast (q := 17) dX1_finish_16 rfl ⟨by decide, rfl, rfl⟩ (by omega) (by omega) ?_
  refine g_aload_n (i := 0) (q := 18) dX1_finish_17 rfl rfl rfl ?_
  refine g_getr (q := 21) dX1_finish_18 rfl fk_X1_21 rfl rfl ?_
  refine g_iload_n (i := 1) (q := 22) dX1_finish_21 rfl rfl rfl ?_
  refine g_iconst (q := 23) dX1_finish_22 rfl ⟨by decide, by decide⟩ ?_
  refine g_iast (q := 24) dX1_finish_23 rfl ⟨by decide, rfl, rfl⟩ (by omega) (by omega) ?_
  refine g_aload_n (i := 0) (q := 25) dX1_finish_24 rfl rfl rfl ?_
  refine g_getr (q := 28) dX1_finish_25 rfl fk_X1_24 rfl rfl ?_
  refine g_iload_n (i := 1) (q := 29) dX1_finish_28 rfl rfl rfl ?_
  refine g_iconst (q := 30) dX1_finish_29 rfl ⟨by decide, by decide⟩ ?_
  refine g_iast (q := 31) dX1_finish_30 rfl ⟨by decide, rfl, rfl⟩ (by omega) (by omega) ?_
  refine g_aload_n (i := 0) (q := 32) dX1_finish_31 rfl rfl rfl ?_
  refine g_getr (q := 35) dX1_finish_32 rfl fk_X1_27 rfl rfl ?_
  refine g_iload_n (i := 1) (q := 36) dX1_finish_35 rfl rfl rfl ?_
  refine g_iconst (q := 37) dX1_finish_36 rfl ⟨by decide, by decide⟩ ?_
  refine g_iast (q := 38) dX1_finish_37 rfl ⟨by decide, rfl, rfl⟩ (by omega) (by omega) ?_
  exact g_retv dX1_finish_38 rfl (by decide) (by first | exact ⟨rfl, rfl⟩ | (exfalso; omega))
def x_sb (S : zS) (f : Int) (c : Nat) : Nat := z_ct (fun k => decide (S.2.1 13 k = f)) c
theorem x_sb_s (S : zS) (f : Int) (i : Nat) : x_sb S f (i + 1) = x_sb S f i + if S.2.1 13 i = f then 1 else 0 := by
  unfold x_sb
  rw [z_ct]
  simp
theorem x_sb_le (S : zS) (f : Int) (i : Nat) : x_sb S f i ≤ i := z_ct_le _ _
theorem l_X1_countServedBy {Q : zQ} {S : zS} {f : Int} (hQ : Q (.ok (some (zI (x_sb S f 200)))) S) : ∀ (k i : Nat) (w : Int), i + k = 200 → w = x_sb S f i → z_G mX1_countServedBy (z_F mX1_countServedBy Q) 0 4 [some (zR 2), some (zI f), some (zI w), some (zI (i : Int))] [] S := by
  intro k
  induction k with
  | zero =>
    intro i w hi hw
    have e : i = 200 := by omega
    subst e
    subst hw
    refine g_iload_n (i := 3) (q := 5) dX1_countServedBy_4 rfl rfl rfl ?_
    refine g_sipush (q := 8) dX1_countServedBy_5 rfl ⟨by decide, by decide⟩ (by decide) ?_
    refine g_icmp_ge (t := 30) (q := 11) dX1_countServedBy_8 (by decide) rfl (fun h8 => ?_) (fun h8 => (False.elim (by omega)))
    refine g_iload_n (i := 2) (q := 31) dX1_countServedBy_30 rfl rfl rfl ?_
    exact g_ret dX1_countServedBy_31 rfl (by decide) hQ
  | succ k ih =>
    intro i w hi hw
    have hle := x_sb_le S f i
    refine g_iload_n (i := 3) (q := 5) dX1_countServedBy_4 rfl rfl rfl ?_
    refine g_sipush (q := 8) dX1_countServedBy_5 rfl ⟨by decide, by decide⟩ (by decide) ?_
    refine g_icmp_ge (t := 30) (q := 11) dX1_countServedBy_8 (by decide) rfl (fun h8 => (False.elim (by omega))) (fun h8 => ?_)
    refine g_aload_n (i := 0) (q := 12) dX1_countServedBy_11 rfl rfl rfl ?_
    refine g_getr (q := 15) dX1_countServedBy_12 rfl fk_X1_9 rfl rfl ?_
    refine g_iload_n (i := 3) (q := 16) dX1_countServedBy_15 rfl rfl rfl ?_
    refine g_ildv (q := 17) (z := S.2.1 13 (i : Int)) dX1_countServedBy_16 rfl ⟨by decide, rfl, rfl⟩ (by omega) (by omega) rfl ?_
    refine g_iload_n (i := 1) (q := 18) dX1_countServedBy_17 rfl rfl rfl ?_
    refine g_icmp_ne (t := 24) (q := 21) dX1_countServedBy_18 (by decide) rfl (fun h18 => ?_) (fun h18 => ?_)
    · refine g_iinc (q := 27) (i := 3) (n := 1) dX1_countServedBy_24 rfl rfl (by constructor <;> omega) ?_
      refine g_goto (q := 0) (t := 4) dX1_countServedBy_27 (by decide) ?_
      exact ih (i + 1) _ (by omega) (by rw [x_sb_s]; split <;> omega)
    · refine g_iinc (q := 24) (i := 2) (n := 1) dX1_countServedBy_21 rfl rfl (by constructor <;> omega) ?_
      refine g_iinc (q := 27) (i := 3) (n := 1) dX1_countServedBy_24 rfl rfl (by constructor <;> omega) ?_
      refine g_goto (q := 0) (t := 4) dX1_countServedBy_27 (by decide) ?_
      exact ih (i + 1) _ (by omega) (by rw [x_sb_s]; split <;> omega)
theorem s_X1_countServedBy {S : zS} {f : Int} : z_Fn mX1_countServedBy [zR 2, zI f] S (some (zI (x_sb S f 200))) S := by
  refine z_enter (by decide +kernel) rfl (z_n1 trivial (z_n1 trivial z_n0)) (Nat.le_of_ble_eq_true rfl) ?_
  refine g_iconst (q := 1) dX1_countServedBy_0 rfl ⟨by decide, by decide⟩ ?_
  refine g_istore_n (i := 2) (q := 2) dX1_countServedBy_1 rfl rfl (by decide) ?_
  refine g_iconst (q := 3) dX1_countServedBy_2 rfl ⟨by decide, by decide⟩ ?_
  refine g_istore_n (i := 3) (q := 4) dX1_countServedBy_3 rfl rfl (by decide) ?_
  exact l_X1_countServedBy ⟨rfl, rfl⟩ 200 0 0 (by omega) rfl
-- Firms
theorem s_X6_isFirm_t {S : zS} {f : Int} (h : 0 ≤ f ∧ f < 6) : z_Fn mX6_isFirm [zI f] S (some (zI 1)) S := by
  refine z_enter (by decide +kernel) rfl (z_n1 trivial z_n0) (Nat.le_of_ble_eq_true rfl) ?_
  refine g_iload_n (i := 0) (q := 1) dX6_isFirm_0 rfl rfl rfl ?_
  refine g_if_lt (t := 14) (q := 4) dX6_isFirm_1 (by decide) rfl (fun h1 => ?_) (fun h1 => ?_)
  · refine g_iconst (q := 15) dX6_isFirm_14 rfl ⟨by decide, by decide⟩ ?_
    exact g_retz dX6_isFirm_15 rfl (by omega) (by decide) (by first | exact ⟨rfl, rfl⟩ | (exfalso; omega))
  · refine g_iload_n (i := 0) (q := 5) dX6_isFirm_4 rfl rfl rfl ?_
    refine g_bipush (q := 7) dX6_isFirm_5 rfl ⟨by decide, by decide⟩ (by decide) ?_
    refine g_icmp_ge (t := 14) (q := 10) dX6_isFirm_7 (by decide) rfl (fun h7 => ?_) (fun h7 => ?_)
    · refine g_iconst (q := 15) dX6_isFirm_14 rfl ⟨by decide, by decide⟩ ?_
      exact g_retz dX6_isFirm_15 rfl (by omega) (by decide) (by first | exact ⟨rfl, rfl⟩ | (exfalso; omega))
    · refine g_iconst (q := 11) dX6_isFirm_10 rfl ⟨by decide, by decide⟩ ?_
      refine g_goto (q := 0) (t := 15) dX6_isFirm_11 (by decide) ?_
      exact g_retz dX6_isFirm_15 rfl (by omega) (by decide) (by first | exact ⟨rfl, rfl⟩ | (exfalso; omega))
theorem s_X6_isFirm_f {S : zS} {f : Int} (h : ¬ (0 ≤ f ∧ f < 6)) : z_Fn mX6_isFirm [zI f] S (some (zI 0)) S := by
  refine z_enter (by decide +kernel) rfl (z_n1 trivial z_n0) (Nat.le_of_ble_eq_true rfl) ?_
  refine g_iload_n (i := 0) (q := 1) dX6_isFirm_0 rfl rfl rfl ?_
  refine g_if_lt (t := 14) (q := 4) dX6_isFirm_1 (by decide) rfl (fun h1 => ?_) (fun h1 => ?_)
  · refine g_iconst (q := 15) dX6_isFirm_14 rfl ⟨by decide, by decide⟩ ?_
    exact g_retz dX6_isFirm_15 rfl (by omega) (by decide) (by first | exact ⟨rfl, rfl⟩ | (exfalso; omega))
  · refine g_iload_n (i := 0) (q := 5) dX6_isFirm_4 rfl rfl rfl ?_
    refine g_bipush (q := 7) dX6_isFirm_5 rfl ⟨by decide, by decide⟩ (by decide) ?_
    refine g_icmp_ge (t := 14) (q := 10) dX6_isFirm_7 (by decide) rfl (fun h7 => ?_) (fun h7 => ?_)
    · refine g_iconst (q := 15) dX6_isFirm_14 rfl ⟨by decide, by decide⟩ ?_
      exact g_retz dX6_isFirm_15 rfl (by omega) (by decide) (by first | exact ⟨rfl, rfl⟩ | (exfalso; omega))
    · refine g_iconst (q := 11) dX6_isFirm_10 rfl ⟨by decide, by decide⟩ ?_
      refine g_goto (q := 0) (t := 15) dX6_isFirm_11 (by decide) ?_
      exact g_retz dX6_isFirm_15 rfl (by omega) (by decide) (by first | exact ⟨rfl, rfl⟩ | (exfalso; omega))
theorem s_X6_isBlock_t {S : zS} {f : Int} (h : 0 ≤ f ∧ f < 20) : z_Fn mX6_isBlock [zI f] S (some (zI 1)) S := by
  refine z_enter (by decide +kernel) rfl (z_n1 trivial z_n0) (Nat.le_of_ble_eq_true rfl) ?_
  refine g_iload_n (i := 0) (q := 1) dX6_isBlock_0 rfl rfl rfl ?_
  refine g_if_lt (t := 14) (q := 4) dX6_isBlock_1 (by decide) rfl (fun h1 => ?_) (fun h1 => ?_)
  · refine g_iconst (q := 15) dX6_isBlock_14 rfl ⟨by decide, by decide⟩ ?_
    exact g_retz dX6_isBlock_15 rfl (by omega) (by decide) (by first | exact ⟨rfl, rfl⟩ | (exfalso; omega))
  · refine g_iload_n (i := 0) (q := 5) dX6_isBlock_4 rfl rfl rfl ?_
    refine g_bipush (q := 7) dX6_isBlock_5 rfl ⟨by decide, by decide⟩ (by decide) ?_
    refine g_icmp_ge (t := 14) (q := 10) dX6_isBlock_7 (by decide) rfl (fun h7 => ?_) (fun h7 => ?_)
    · refine g_iconst (q := 15) dX6_isBlock_14 rfl ⟨by decide, by decide⟩ ?_
      exact g_retz dX6_isBlock_15 rfl (by omega) (by decide) (by first | exact ⟨rfl, rfl⟩ | (exfalso; omega))
    · refine g_iconst (q := 11) dX6_isBlock_10 rfl ⟨by decide, by decide⟩ ?_
      refine g_goto (q := 0) (t := 15) dX6_isBlock_11 (by decide) ?_
      exact g_retz dX6_isBlock_15 rfl (by omega) (by decide) (by first | exact ⟨rfl, rfl⟩ | (exfalso; omega))
theorem s_X6_isBlock_f {S : zS} {f : Int} (h : ¬ (0 ≤ f ∧ f < 20)) : z_Fn mX6_isBlock [zI f] S (some (zI 0)) S := by
  refine z_enter (by decide +kernel) rfl (z_n1 trivial z_n0) (Nat.le_of_ble_eq_true rfl) ?_
  refine g_iload_n (i := 0) (q := 1) dX6_isBlock_0 rfl rfl rfl ?_
  refine g_if_lt (t := 14) (q := 4) dX6_isBlock_1 (by decide) rfl (fun h1 => ?_) (fun h1 => ?_)
  · refine g_iconst (q := 15) dX6_isBlock_14 rfl ⟨by decide, by decide⟩ ?_
    exact g_retz dX6_isBlock_15 rfl (by omega) (by decide) (by first | exact ⟨rfl, rfl⟩ | (exfalso; omega))
  · refine g_iload_n (i := 0) (q := 5) dX6_isBlock_4 rfl rfl rfl ?_
    refine g_bipush (q := 7) dX6_isBlock_5 rfl ⟨by decide, by decide⟩ (by decide) ?_
    refine g_icmp_ge (t := 14) (q := 10) dX6_isBlock_7 (by decide) rfl (fun h7 => ?_) (fun h7 => ?_)
    · refine g_iconst (q := 15) dX6_isBlock_14 rfl ⟨by decide, by decide⟩ ?_
      exact g_retz dX6_isBlock_15 rfl (by omega) (by decide) (by first | exact ⟨rfl, rfl⟩ | (exfalso; omega))
    · refine g_iconst (q := 11) dX6_isBlock_10 rfl ⟨by decide, by decide⟩ ?_
      refine g_goto (q := 0) (t := 15) dX6_isBlock_11 (by decide) ?_
      exact g_retz dX6_isBlock_15 rfl (by omega) (by decide) (by first | exact ⟨rfl, rfl⟩ | (exfalso; omega))
def z_wr (x : Int) : Int := x.bmod (2 ^ 32)
def x_pay (S : zS) (p t m : Int) : zS := z_sA (z_sA S 12 p (z_wr (S.2.1 12 p - m))) 12 t (z_wr ((z_sA S 12 p (z_wr (S.2.1 12 p - m))).2.1 12 t + m))
theorem s_X2_pay {S : zS} {p t m : Int} (hp : 0 ≤ p ∧ p < 6) (ht : 0 ≤ t ∧ t < 6) : z_Fn mX2_pay [zR 1, zI p, zI t, zI m] S none (x_pay S p t m) := by
  refine z_enter (by decide +kernel) rfl (z_n1 trivial (z_n1 trivial (z_n1 trivial (z_n1 trivial z_n0)))) (Nat.le_of_ble_eq_true rfl) ?_
  refine g_iload_n (i := 1) (q := 1) dX2_pay_0 rfl rfl rfl ?_
  refine g_fnN (as := [zI p]) (q := 4) (u' := 0) dX2_pay_1 rfl ck_X2_25 rfl rfl (Nat.le_of_ble_eq_true rfl) (by decide) rfl (by decide) (s_X6_isFirm_t hp) rfl ?_
  refine g_if_eq (t := 34) (q := 7) dX2_pay_4 (by decide) rfl (fun h4 => (False.elim (by omega))) (fun h4 => ?_)
  refine g_iload_n (i := 2) (q := 8) dX2_pay_7 rfl rfl rfl ?_
  refine g_fnN (as := [zI t]) (q := 11) (u' := 0) dX2_pay_8 rfl ck_X2_25 rfl rfl (Nat.le_of_ble_eq_true rfl) (by decide) rfl (by decide) (s_X6_isFirm_t ht) rfl ?_
  refine g_if_eq (t := 34) (q := 14) dX2_pay_11 (by decide) rfl (fun h11 => (False.elim (by omega))) (fun h11 => ?_)
  refine g_aload_n (i := 0) (q := 15) dX2_pay_14 rfl rfl rfl ?_
  refine g_getr (q := 18) dX2_pay_15 rfl fk_X2_22 rfl rfl ?_
  refine g_iload_n (i := 1) (q := 19) dX2_pay_18 rfl rfl rfl ?_
  refine g_dup2 (q := 20) dX2_pay_19 rfl trivial trivial ?_
  refine g_ildv (q := 21) (z := S.2.1 12 p) dX2_pay_20 rfl ⟨by decide, rfl, rfl⟩ (by omega) (by omega) rfl ?_
  refine g_iload_n (i := 3) (q := 22) dX2_pay_21 rfl rfl rfl ?_
  refine g_isubw (q := 23) dX2_pay_22 rfl ?_
  refine g_iast (q := 24) dX2_pay_23 rfl ⟨by decide, rfl, rfl⟩ (by omega) (by omega) ?_
  refine g_aload_n (i := 0) (q := 25) dX2_pay_24 rfl rfl rfl ?_
  refine g_getr (q := 28) dX2_pay_25 rfl fk_X2_22 rfl rfl ?_
  refine g_iload_n (i := 2) (q := 29) dX2_pay_28 rfl rfl rfl ?_
  refine g_dup2 (q := 30) dX2_pay_29 rfl trivial trivial ?_
  refine g_ildv (q := 31) (z := _) dX2_pay_30 rfl ⟨by decide, rfl, rfl⟩ (by omega) (by omega) rfl ?_
  refine g_iload_n (i := 3) (q := 32) dX2_pay_31 rfl rfl rfl ?_
  refine g_iaddw (q := 33) dX2_pay_32 rfl ?_
  refine g_iast (q := 34) dX2_pay_33 rfl ⟨by decide, rfl, rfl⟩ (by omega) (by omega) ?_
  exact g_retv dX2_pay_34 rfl (by decide) (by first | exact ⟨rfl, rfl⟩ | (exfalso; omega))
-- History
def x_note (S : zS) (b n x : Int) : zS := z_sS (z_sA (z_sA (z_sA S 36 (S.1 3) b) 37 (S.1 3) n) 38 (S.1 3) x) 3 (S.1 3 + 1)
theorem s_X3_note {S : zS} {b n x : Int} (hb : b = 0 ∨ b = 1) (h0 : 0 ≤ S.1 3) (h1 : S.1 3 < 572) : z_Fn mX3_note [zR 5, zI b, zI n, zI x] S none (x_note S b n x) := by
  refine z_enter (by decide +kernel) rfl (z_n1 trivial (z_n1 trivial (z_n1 trivial (z_n1 trivial z_n0)))) (Nat.le_of_ble_eq_true rfl) ?_
  refine g_aload_n (i := 0) (q := 1) dX3_note_0 rfl rfl rfl ?_
  refine g_getv (q := 4) (z := S.1 3) dX3_note_1 rfl fk_X3_22 rfl rfl rfl ?_
  refine g_sipush (q := 7) dX3_note_4 rfl ⟨by decide, by decide⟩ (by decide) ?_
  refine g_icmp_ge (t := 50) (q := 10) dX3_note_7 (by decide) rfl (fun h7 => (False.elim (by omega))) (fun h7 => ?_)
  refine g_aload_n (i := 0) (q := 11) dX3_note_10 rfl rfl rfl ?_
  refine g_getr (q := 14) dX3_note_11 rfl fk_X3_11 rfl rfl ?_
  refine g_aload_n (i := 0) (q := 15) dX3_note_14 rfl rfl rfl ?_
  refine g_getv (q := 18) (z := S.1 3) dX3_note_15 rfl fk_X3_22 rfl rfl rfl ?_
  refine g_iload_n (i := 1) (q := 19) dX3_note_18 rfl rfl rfl ?_
  refine g_zast (q := 20) dX3_note_19 rfl ⟨by decide, rfl, rfl⟩ (by omega) (by omega) (by omega) ?_
  refine g_aload_n (i := 0) (q := 21) dX3_note_20 rfl rfl rfl ?_
  refine g_getr (q := 24) dX3_note_21 rfl fk_X3_15 rfl rfl ?_
  refine g_aload_n (i := 0) (q := 25) dX3_note_24 rfl rfl rfl ?_
  refine g_getv (q := 28) (z := S.1 3) dX3_note_25 rfl fk_X3_22 rfl rfl rfl ?_
  refine g_iload_n (i := 2) (q := 29) dX3_note_28 rfl rfl rfl ?_
  refine g_iast (q := 30) dX3_note_29 rfl ⟨by decide, rfl, rfl⟩ (by omega) (by omega) ?_
  refine g_aload_n (i := 0) (q := 31) dX3_note_30 rfl rfl rfl ?_
  refine g_getr (q := 34) dX3_note_31 rfl fk_X3_19 rfl rfl ?_
  refine g_aload_n (i := 0) (q := 35) dX3_note_34 rfl rfl rfl ?_
  refine g_getv (q := 38) (z := S.1 3) dX3_note_35 rfl fk_X3_22 rfl rfl rfl ?_
  refine g_iload_n (i := 3) (q := 39) dX3_note_38 rfl rfl rfl ?_
  refine g_iast (q := 40) dX3_note_39 rfl ⟨by decide, rfl, rfl⟩ (by omega) (by omega) ?_
  refine g_aload_n (i := 0) (q := 41) dX3_note_40 rfl rfl rfl ?_
  refine g_dup (q := 42) dX3_note_41 rfl trivial ?_
  refine g_getv (q := 45) (z := S.1 3) dX3_note_42 rfl fk_X3_22 rfl rfl rfl ?_
  refine g_iconst (q := 46) dX3_note_45 rfl ⟨by decide, by decide⟩ ?_
  refine g_iadd (q := 47) dX3_note_46 rfl (by constructor <;> omega) ?_
  refine g_put (q := 50) dX3_note_47 rfl fk_X3_22 fp_3_3 rfl rfl ?_
  exact g_retv dX3_note_50 rfl (by decide) (by first | exact ⟨rfl, rfl⟩ | (exfalso; omega))
theorem s_X3_serves {S : zS} {n x : Int} (h0 : 0 ≤ S.1 3) (h1 : S.1 3 < 572) : z_Fn mX3_serves [zR 5, zI n, zI x] S none (x_note S 0 n x) := by
  refine z_enter (by decide +kernel) rfl (z_n1 trivial (z_n1 trivial (z_n1 trivial z_n0))) (Nat.le_of_ble_eq_true rfl) ?_
  refine g_aload_n (i := 0) (q := 1) dX3_serves_0 rfl rfl rfl ?_
  refine g_iconst (q := 2) dX3_serves_1 rfl ⟨by decide, by decide⟩ ?_
  refine g_iload_n (i := 1) (q := 3) dX3_serves_2 rfl rfl rfl ?_
  refine g_iload_n (i := 2) (q := 4) dX3_serves_3 rfl rfl rfl ?_
  refine g_fnV (as := [zI 0, zI n, zI x]) (q := 7) (u' := 0) dX3_serves_4 rfl ck_X3_26 rfl rfl rfl (Nat.le_of_ble_eq_true rfl) (by decide) rfl (by decide) (s_X3_note (by omega) h0 h1) rfl ?_
  exact g_retv dX3_serves_7 rfl (by decide) (by first | exact ⟨rfl, rfl⟩ | (exfalso; omega))
theorem s_X3_firmEnds {S : zS} {n x : Int} (h0 : 0 ≤ S.1 3) (h1 : S.1 3 < 572) : z_Fn mX3_firmEnds [zR 5, zI n, zI x] S none (x_note S 1 n x) := by
  refine z_enter (by decide +kernel) rfl (z_n1 trivial (z_n1 trivial (z_n1 trivial z_n0))) (Nat.le_of_ble_eq_true rfl) ?_
  refine g_aload_n (i := 0) (q := 1) dX3_firmEnds_0 rfl rfl rfl ?_
  refine g_iconst (q := 2) dX3_firmEnds_1 rfl ⟨by decide, by decide⟩ ?_
  refine g_iload_n (i := 1) (q := 3) dX3_firmEnds_2 rfl rfl rfl ?_
  refine g_iload_n (i := 2) (q := 4) dX3_firmEnds_3 rfl rfl rfl ?_
  refine g_fnV (as := [zI 1, zI n, zI x]) (q := 7) (u' := 0) dX3_firmEnds_4 rfl ck_X3_26 rfl rfl rfl (Nat.le_of_ble_eq_true rfl) (by decide) rfl (by decide) (s_X3_note (by omega) h0 h1) rfl ?_
  exact g_retv dX3_firmEnds_7 rfl (by decide) (by first | exact ⟨rfl, rfl⟩ | (exfalso; omega))
def x_rep (S : zS) (n : Int) : Nat → Nat → Int → Int
  | _, 0, s => s
  | i, k + 1, s => x_rep S n (i + 1) k (if S.2.1 37 i = (if S.2.1 36 i = 0 then n else s) then S.2.1 38 i else s)
theorem l_X3_replay {Q : zQ} {S : zS} {n : Int} {c : Nat} (hc : S.1 3 = c) (h572 : c ≤ 572) : ∀ (k i : Nat) (s : Int), i + k = c → Q (.ok (some (zI (x_rep S n i k s)))) S → ∀ w, z_G mX3_replay (z_F mX3_replay Q) 0 4 [some (zR 5), some (zI n), some (zI s), some (zI (i : Int)), w] [] S := by
  intro k
  induction k with
  | zero =>
    intro i s hi hQ w
    refine g_iload_n (i := 3) (q := 5) dX3_replay_4 rfl rfl rfl ?_
    refine g_aload_n (i := 0) (q := 6) dX3_replay_5 rfl rfl rfl ?_
    refine g_getv (q := 9) (z := S.1 3) dX3_replay_6 rfl fk_X3_22 rfl rfl rfl ?_
    refine g_icmp_ge (t := 52) (q := 12) dX3_replay_9 (by decide) rfl (fun h9 => ?_) (fun h9 => (False.elim (by omega)))
    refine g_iload_n (i := 2) (q := 53) dX3_replay_52 rfl rfl rfl ?_
    exact g_ret dX3_replay_53 rfl (by decide) hQ
  | succ k ih =>
    intro i s hi hQ w
    rw [x_rep] at hQ
    refine g_iload_n (i := 3) (q := 5) dX3_replay_4 rfl rfl rfl ?_
    refine g_aload_n (i := 0) (q := 6) dX3_replay_5 rfl rfl rfl ?_
    refine g_getv (q := 9) (z := S.1 3) dX3_replay_6 rfl fk_X3_22 rfl rfl rfl ?_
    refine g_icmp_ge (t := 52) (q := 12) dX3_replay_9 (by decide) rfl (fun h9 => (False.elim (by omega))) (fun h9 => ?_)
    refine g_aload_n (i := 0) (q := 13) dX3_replay_12 rfl rfl rfl ?_
    refine g_getr (q := 16) dX3_replay_13 rfl fk_X3_11 rfl rfl ?_
    refine g_iload_n (i := 3) (q := 17) dX3_replay_16 rfl rfl rfl ?_
    refine g_zldv (q := 18) (z := S.2.1 36 (i : Int)) dX3_replay_17 rfl ⟨by decide, rfl, rfl⟩ (by omega) (by omega) rfl ?_
    refine g_if_eq (t := 25) (q := 21) dX3_replay_18 (by decide) rfl (fun h18 => ?_) (fun h18 => ?_)
    · refine g_iload_n (i := 1) (q := 26) dX3_replay_25 rfl rfl rfl ?_
      refine g_istore (q := 28) dX3_replay_26 rfl (by decide) ?_
      refine g_aload_n (i := 0) (q := 29) dX3_replay_28 rfl rfl rfl ?_
      refine g_getr (q := 32) dX3_replay_29 rfl fk_X3_15 rfl rfl ?_
      refine g_iload_n (i := 3) (q := 33) dX3_replay_32 rfl rfl rfl ?_
      refine g_ildv (q := 34) (z := S.2.1 37 (i : Int)) dX3_replay_33 rfl ⟨by decide, rfl, rfl⟩ (by omega) (by omega) rfl ?_
      refine g_iload (q := 36) dX3_replay_34 rfl rfl ?_
      refine g_icmp_ne (t := 46) (q := 39) dX3_replay_36 (by decide) rfl (fun h36 => ?_) (fun h36 => ?_)
      · refine g_iinc (q := 49) (i := 3) (n := 1) dX3_replay_46 rfl rfl (by constructor <;> omega) ?_
        refine g_goto (q := 0) (t := 4) dX3_replay_49 (by decide) ?_
        exact ih (i + 1) _ (by omega) (by simpa [h18, h36] using hQ) _
      · refine g_aload_n (i := 0) (q := 40) dX3_replay_39 rfl rfl rfl ?_
        refine g_getr (q := 43) dX3_replay_40 rfl fk_X3_19 rfl rfl ?_
        refine g_iload_n (i := 3) (q := 44) dX3_replay_43 rfl rfl rfl ?_
        refine g_ildv (q := 45) (z := S.2.1 38 (i : Int)) dX3_replay_44 rfl ⟨by decide, rfl, rfl⟩ (by omega) (by omega) rfl ?_
        refine g_istore_n (i := 2) (q := 46) dX3_replay_45 rfl rfl (by decide) ?_
        refine g_iinc (q := 49) (i := 3) (n := 1) dX3_replay_46 rfl rfl (by constructor <;> omega) ?_
        refine g_goto (q := 0) (t := 4) dX3_replay_49 (by decide) ?_
        exact ih (i + 1) _ (by omega) (by simpa [h18, h36] using hQ) _
    · refine g_iload_n (i := 2) (q := 22) dX3_replay_21 rfl rfl rfl ?_
      refine g_goto (q := 0) (t := 26) dX3_replay_22 (by decide) ?_
      refine g_istore (q := 28) dX3_replay_26 rfl (by decide) ?_
      refine g_aload_n (i := 0) (q := 29) dX3_replay_28 rfl rfl rfl ?_
      refine g_getr (q := 32) dX3_replay_29 rfl fk_X3_15 rfl rfl ?_
      refine g_iload_n (i := 3) (q := 33) dX3_replay_32 rfl rfl rfl ?_
      refine g_ildv (q := 34) (z := S.2.1 37 (i : Int)) dX3_replay_33 rfl ⟨by decide, rfl, rfl⟩ (by omega) (by omega) rfl ?_
      refine g_iload (q := 36) dX3_replay_34 rfl rfl ?_
      refine g_icmp_ne (t := 46) (q := 39) dX3_replay_36 (by decide) rfl (fun h36 => ?_) (fun h36 => ?_)
      · refine g_iinc (q := 49) (i := 3) (n := 1) dX3_replay_46 rfl rfl (by constructor <;> omega) ?_
        refine g_goto (q := 0) (t := 4) dX3_replay_49 (by decide) ?_
        exact ih (i + 1) _ (by omega) (by simpa [h18, h36] using hQ) _
      · refine g_aload_n (i := 0) (q := 40) dX3_replay_39 rfl rfl rfl ?_
        refine g_getr (q := 43) dX3_replay_40 rfl fk_X3_19 rfl rfl ?_
        refine g_iload_n (i := 3) (q := 44) dX3_replay_43 rfl rfl rfl ?_
        refine g_ildv (q := 45) (z := S.2.1 38 (i : Int)) dX3_replay_44 rfl ⟨by decide, rfl, rfl⟩ (by omega) (by omega) rfl ?_
        refine g_istore_n (i := 2) (q := 46) dX3_replay_45 rfl rfl (by decide) ?_
        refine g_iinc (q := 49) (i := 3) (n := 1) dX3_replay_46 rfl rfl (by constructor <;> omega) ?_
        refine g_goto (q := 0) (t := 4) dX3_replay_49 (by decide) ?_
        exact ih (i + 1) _ (by omega) (by simpa [h18, h36] using hQ) _
theorem s_X3_replay {S : zS} {n : Int} {c : Nat} (hc : S.1 3 = c) (h572 : c ≤ 572) : z_Fn mX3_replay [zR 5, zI n] S (some (zI (x_rep S n 0 c (-1)))) S := by
  refine z_enter (by decide +kernel) rfl (z_n1 trivial (z_n1 trivial z_n0)) (Nat.le_of_ble_eq_true rfl) ?_
  refine g_iconst (q := 1) dX3_replay_0 rfl ⟨by decide, by decide⟩ ?_
  refine g_istore_n (i := 2) (q := 2) dX3_replay_1 rfl rfl (by decide) ?_
  refine g_iconst (q := 3) dX3_replay_2 rfl ⟨by decide, by decide⟩ ?_
  refine g_istore_n (i := 3) (q := 4) dX3_replay_3 rfl rfl (by decide) ?_
  exact l_X3_replay hc h572 c 0 (-1) (by omega) ⟨rfl, rfl⟩ _
-- Route
def x_hb (S : zS) (f : Int) : zS := z_sS (z_sA S 39 0 f) 4 1
theorem s_X5_begin {S : zS} {f : Int} : z_Fn mX5_begin [zR 6, zI f] S none (x_hb S f) := by
  refine z_enter (by decide +kernel) rfl (z_n1 trivial (z_n1 trivial z_n0)) (Nat.le_of_ble_eq_true rfl) ?_
  refine g_aload_n (i := 0) (q := 1) dX5_begin_0 rfl rfl rfl ?_
  refine g_getr (q := 4) dX5_begin_1 rfl fk_X5_9 rfl rfl ?_
  refine g_iconst (q := 5) dX5_begin_4 rfl ⟨by decide, by decide⟩ ?_
  refine g_iload_n (i := 1) (q := 6) dX5_begin_5 rfl rfl rfl ?_
  refine g_iast (q := 7) dX5_begin_6 rfl ⟨by decide, rfl, rfl⟩ (by omega) (by omega) ?_
  refine g_aload_n (i := 0) (q := 8) dX5_begin_7 rfl rfl rfl ?_
  refine g_iconst (q := 9) dX5_begin_8 rfl ⟨by decide, by decide⟩ ?_
  refine g_put (q := 12) dX5_begin_9 rfl fk_X5_15 fp_5_1 rfl rfl ?_
  exact g_retv dX5_begin_12 rfl (by decide) (by first | exact ⟨rfl, rfl⟩ | (exfalso; omega))
def x_ha (S : zS) (f : Int) : zS := z_sS (z_sA S 39 (S.1 4) f) 4 (S.1 4 + 1)
theorem s_X5_add {S : zS} {f : Int} (h0 : 0 ≤ S.1 4) (h1 : S.1 4 < 7) : z_Fn mX5_add [zR 6, zI f] S none (x_ha S f) := by
  refine z_enter (by decide +kernel) rfl (z_n1 trivial (z_n1 trivial z_n0)) (Nat.le_of_ble_eq_true rfl) ?_
  refine g_aload_n (i := 0) (q := 1) dX5_add_0 rfl rfl rfl ?_
  refine g_getv (q := 4) (z := S.1 4) dX5_add_1 rfl fk_X5_15 rfl rfl rfl ?_
  refine g_aload_n (i := 0) (q := 5) dX5_add_4 rfl rfl rfl ?_
  refine g_getr (q := 8) dX5_add_5 rfl fk_X5_9 rfl rfl ?_
  refine g_alen (a := 0) (q := 9) dX5_add_8 rfl ⟨by decide, rfl, rfl⟩ (by decide) ?_
  refine g_icmp_ge (t := 32) (q := 12) dX5_add_9 (by decide) rfl (fun h9 => (False.elim (by omega))) (fun h9 => ?_)
  refine g_aload_n (i := 0) (q := 13) dX5_add_12 rfl rfl rfl ?_
  refine g_getr (q := 16) dX5_add_13 rfl fk_X5_9 rfl rfl ?_
  refine g_aload_n (i := 0) (q := 17) dX5_add_16 rfl rfl rfl ?_
  refine g_getv (q := 20) (z := S.1 4) dX5_add_17 rfl fk_X5_15 rfl rfl rfl ?_
  refine g_iload_n (i := 1) (q := 21) dX5_add_20 rfl rfl rfl ?_
  refine g_iast (q := 22) dX5_add_21 rfl ⟨by decide, rfl, rfl⟩ (by omega) (by omega) ?_
  refine g_aload_n (i := 0) (q := 23) dX5_add_22 rfl rfl rfl ?_
  refine g_dup (q := 24) dX5_add_23 rfl trivial ?_
  refine g_getv (q := 27) (z := S.1 4) dX5_add_24 rfl fk_X5_15 rfl rfl rfl ?_
  refine g_iconst (q := 28) dX5_add_27 rfl ⟨by decide, by decide⟩ ?_
  refine g_iadd (q := 29) dX5_add_28 rfl (by constructor <;> omega) ?_
  refine g_put (q := 32) dX5_add_29 rfl fk_X5_15 fp_5_1 rfl rfl ?_
  exact g_retv dX5_add_32 rfl (by decide) (by first | exact ⟨rfl, rfl⟩ | (exfalso; omega))
def x_hop (S : zS) (p : Int) : Int := if 0 ≤ p ∧ p < S.1 4 then S.2.1 39 p else -1
theorem s_X5_hopAt {S : zS} {p : Int} (h1 : S.1 4 ≤ 7) : z_Fn mX5_hopAt [zR 6, zI p] S (some (zI (x_hop S p))) S := by
  refine z_enter (by decide +kernel) rfl (z_n1 trivial (z_n1 trivial z_n0)) (Nat.le_of_ble_eq_true rfl) ?_
  refine g_iload_n (i := 1) (q := 1) dX5_hopAt_0 rfl rfl rfl ?_
  refine g_if_lt (t := 21) (q := 4) dX5_hopAt_1 (by decide) rfl (fun h1 => ?_) (fun h1 => ?_)
  · refine g_iconst (q := 22) dX5_hopAt_21 rfl ⟨by decide, by decide⟩ ?_
    exact g_ret dX5_hopAt_22 rfl (by decide) ⟨by unfold x_hop; first | rw [if_pos (by omega)] | rw [if_neg (by omega)], rfl⟩
  · refine g_iload_n (i := 1) (q := 5) dX5_hopAt_4 rfl rfl rfl ?_
    refine g_aload_n (i := 0) (q := 6) dX5_hopAt_5 rfl rfl rfl ?_
    refine g_getv (q := 9) (z := S.1 4) dX5_hopAt_6 rfl fk_X5_15 rfl rfl rfl ?_
    refine g_icmp_ge (t := 21) (q := 12) dX5_hopAt_9 (by decide) rfl (fun h9 => ?_) (fun h9 => ?_)
    · refine g_iconst (q := 22) dX5_hopAt_21 rfl ⟨by decide, by decide⟩ ?_
      exact g_ret dX5_hopAt_22 rfl (by decide) ⟨by unfold x_hop; first | rw [if_pos (by omega)] | rw [if_neg (by omega)], rfl⟩
    · refine g_aload_n (i := 0) (q := 13) dX5_hopAt_12 rfl rfl rfl ?_
      refine g_getr (q := 16) dX5_hopAt_13 rfl fk_X5_9 rfl rfl ?_
      refine g_iload_n (i := 1) (q := 17) dX5_hopAt_16 rfl rfl rfl ?_
      refine g_ildv (q := 18) (z := S.2.1 39 p) dX5_hopAt_17 rfl ⟨by decide, rfl, rfl⟩ (by omega) (by omega) rfl ?_
      refine g_goto (q := 0) (t := 22) dX5_hopAt_18 (by decide) ?_
      exact g_ret dX5_hopAt_22 rfl (by decide) ⟨by unfold x_hop; first | rw [if_pos (by omega)] | rw [if_neg (by omega)], rfl⟩
def x_has (S : zS) (f : Int) : Nat → Nat → Bool
  | _, 0 => false
  | i, k + 1 => decide (S.2.1 39 i = f) || x_has S f (i + 1) k
theorem l_X5_has {Q : zQ} {S : zS} {f : Int} {c : Nat} (hc : S.1 4 = c) (h7 : c ≤ 7) : ∀ (k i : Nat), i + k = c → Q (.ok (some (zI (if x_has S f i k then 1 else 0)))) S → z_G mX5_has (z_F mX5_has Q) 0 2 [some (zR 6), some (zI f), some (zI (i : Int))] [] S := by
  intro k
  induction k with
  | zero =>
    intro i hi hQ
    refine g_iload_n (i := 2) (q := 3) dX5_has_2 rfl rfl rfl ?_
    refine g_aload_n (i := 0) (q := 4) dX5_has_3 rfl rfl rfl ?_
    refine g_getv (q := 7) (z := S.1 4) dX5_has_4 rfl fk_X5_15 rfl rfl rfl ?_
    refine g_icmp_ge (t := 28) (q := 10) dX5_has_7 (by decide) rfl (fun h7 => ?_) (fun h7 => (False.elim (by omega)))
    refine g_iconst (q := 29) dX5_has_28 rfl ⟨by decide, by decide⟩ ?_
    exact g_retz dX5_has_29 rfl (by omega) (by decide) hQ
  | succ k ih =>
    intro i hi hQ
    rw [x_has] at hQ
    refine g_iload_n (i := 2) (q := 3) dX5_has_2 rfl rfl rfl ?_
    refine g_aload_n (i := 0) (q := 4) dX5_has_3 rfl rfl rfl ?_
    refine g_getv (q := 7) (z := S.1 4) dX5_has_4 rfl fk_X5_15 rfl rfl rfl ?_
    refine g_icmp_ge (t := 28) (q := 10) dX5_has_7 (by decide) rfl (fun h7 => (False.elim (by omega))) (fun h7 => ?_)
    refine g_aload_n (i := 0) (q := 11) dX5_has_10 rfl rfl rfl ?_
    refine g_getr (q := 14) dX5_has_11 rfl fk_X5_9 rfl rfl ?_
    refine g_iload_n (i := 2) (q := 15) dX5_has_14 rfl rfl rfl ?_
    refine g_ildv (q := 16) (z := S.2.1 39 (i : Int)) dX5_has_15 rfl ⟨by decide, rfl, rfl⟩ (by omega) (by omega) rfl ?_
    refine g_iload_n (i := 1) (q := 17) dX5_has_16 rfl rfl rfl ?_
    refine g_icmp_ne (t := 22) (q := 20) dX5_has_17 (by decide) rfl (fun h17 => ?_) (fun h17 => ?_)
    · refine g_iinc (q := 25) (i := 2) (n := 1) dX5_has_22 rfl rfl (by constructor <;> omega) ?_
      refine g_goto (q := 0) (t := 2) dX5_has_25 (by decide) ?_
      exact ih (i + 1) (by omega) (by simpa [h17] using hQ)
    · refine g_iconst (q := 21) dX5_has_20 rfl ⟨by decide, by decide⟩ ?_
      exact g_retz dX5_has_21 rfl (by omega) (by decide) (by simpa [h17] using hQ)
theorem s_X5_has {S : zS} {f : Int} {c : Nat} (hc : S.1 4 = c) (h7 : c ≤ 7) : z_Fn mX5_has [zR 6, zI f] S (some (zI (if x_has S f 0 c then 1 else 0))) S := by
  refine z_enter (by decide +kernel) rfl (z_n1 trivial (z_n1 trivial z_n0)) (Nat.le_of_ble_eq_true rfl) ?_
  refine g_iconst (q := 1) dX5_has_0 rfl ⟨by decide, by decide⟩ ?_
  refine g_istore_n (i := 2) (q := 2) dX5_has_1 rfl rfl (by decide) ?_
  exact l_X5_has hc h7 c 0 (by omega) ⟨rfl, rfl⟩
