/-! ===== the reference: what a firm knows, calls ===== -/
def y_last (S : zS) (n : Int) : Nat → Int
  | 0 => 6
  | k + 1 => if S.2.1 56 k = n then S.2.1 57 k else y_last S n k
def y_kb (S : zS) (f n : Int) : Int := if S.2.1 40 (n / 10) = -1 ∨ y_last S n (S.2.1 58 f).toNat = 6 then S.2.1 40 (n / 10) else y_last S n (S.2.1 58 f).toNat
theorem l_X7_knownBy {Q : zQ} {S : zS} {f n : Int} {c : Nat} (hf : 0 ≤ f ∧ f < 6) (hn : 0 ≤ n ∧ n < 200) (hc : S.2.1 58 f = c) (h4 : c ≤ 4000) (hQ : Q (.ok (some (zI (y_kb S f n)))) S) : ∀ (k i : Nat) (w : Int), i + k = c → w = y_last S n i → z_G mX7_knownBy (z_F mX7_knownBy Q) 0 6 [some (zR 7), some (zI f), some (zI n), some (zI w), some (zI (i : Int))] [] S := by
  intro k
  induction k with
  | zero =>
    intro i w hi hw
    have e : i = c := by omega
    subst e
    subst hw
    have ec : (S.2.1 58 f).toNat = i := by omega
    unfold y_kb at hQ
    rw [ec] at hQ
    by_cases h1 : S.2.1 40 (n / 10) = -1 ∨ y_last S n i = 6
    · rw [if_pos h1] at hQ
      refine g_iload (q := 8) dX7_knownBy_6 rfl rfl ?_
      refine g_aload_n (i := 0) (q := 9) dX7_knownBy_8 rfl rfl rfl ?_
      refine g_getr (q := 12) dX7_knownBy_9 rfl fk_X7_65 rfl rfl ?_
      refine g_iload_n (i := 1) (q := 13) dX7_knownBy_12 rfl rfl rfl ?_
      refine g_ildv (q := 14) (z := S.2.1 58 f) dX7_knownBy_13 rfl ⟨by decide, rfl, rfl⟩ (by omega) (by omega) rfl ?_
      refine g_icmp_ge (t := 46) (q := 17) dX7_knownBy_14 (by decide) rfl (fun h14 => ?_) (fun h14 => (False.elim (by omega)))
      refine g_aload_n (i := 0) (q := 47) dX7_knownBy_46 rfl rfl rfl ?_
      refine g_iload_n (i := 2) (q := 48) dX7_knownBy_47 rfl rfl rfl ?_
      refine g_fnV (as := [zI n]) (q := 51) (u' := 0) dX7_knownBy_48 rfl ck_X7_114 rfl rfl rfl (Nat.le_of_ble_eq_true rfl) (by decide) rfl (by decide) (t_holderOf hn) rfl ?_
      refine g_iconst (q := 52) dX7_knownBy_51 rfl ⟨by decide, by decide⟩ ?_
      refine g_icmp_eq (t := 61) (q := 55) dX7_knownBy_52 (by decide) rfl (fun h52 => ?_) (fun h52 => ?_)
      · refine g_aload_n (i := 0) (q := 62) dX7_knownBy_61 rfl rfl rfl ?_
        refine g_iload_n (i := 2) (q := 63) dX7_knownBy_62 rfl rfl rfl ?_
        refine g_fnV (as := [zI n]) (q := 66) (u' := 0) dX7_knownBy_63 rfl ck_X7_114 rfl rfl rfl (Nat.le_of_ble_eq_true rfl) (by decide) rfl (by decide) (t_holderOf hn) rfl ?_
        refine g_goto (q := 0) (t := 70) dX7_knownBy_66 (by decide) ?_
        exact g_ret dX7_knownBy_70 rfl (by decide) hQ
      · refine g_iload_n (i := 3) (q := 56) dX7_knownBy_55 rfl rfl rfl ?_
        refine g_bipush (q := 58) dX7_knownBy_56 rfl ⟨by decide, by decide⟩ (by decide) ?_
        refine g_icmp_ne (t := 69) (q := 61) dX7_knownBy_58 (by decide) rfl (fun h58 => ?_) (fun h58 => ?_)
        · exact absurd h1 (by omega)
        · refine g_aload_n (i := 0) (q := 62) dX7_knownBy_61 rfl rfl rfl ?_
          refine g_iload_n (i := 2) (q := 63) dX7_knownBy_62 rfl rfl rfl ?_
          refine g_fnV (as := [zI n]) (q := 66) (u' := 0) dX7_knownBy_63 rfl ck_X7_114 rfl rfl rfl (Nat.le_of_ble_eq_true rfl) (by decide) rfl (by decide) (t_holderOf hn) rfl ?_
          refine g_goto (q := 0) (t := 70) dX7_knownBy_66 (by decide) ?_
          exact g_ret dX7_knownBy_70 rfl (by decide) hQ
    · rw [if_neg h1] at hQ
      refine g_iload (q := 8) dX7_knownBy_6 rfl rfl ?_
      refine g_aload_n (i := 0) (q := 9) dX7_knownBy_8 rfl rfl rfl ?_
      refine g_getr (q := 12) dX7_knownBy_9 rfl fk_X7_65 rfl rfl ?_
      refine g_iload_n (i := 1) (q := 13) dX7_knownBy_12 rfl rfl rfl ?_
      refine g_ildv (q := 14) (z := S.2.1 58 f) dX7_knownBy_13 rfl ⟨by decide, rfl, rfl⟩ (by omega) (by omega) rfl ?_
      refine g_icmp_ge (t := 46) (q := 17) dX7_knownBy_14 (by decide) rfl (fun h14 => ?_) (fun h14 => (False.elim (by omega)))
      refine g_aload_n (i := 0) (q := 47) dX7_knownBy_46 rfl rfl rfl ?_
      refine g_iload_n (i := 2) (q := 48) dX7_knownBy_47 rfl rfl rfl ?_
      refine g_fnV (as := [zI n]) (q := 51) (u' := 0) dX7_knownBy_48 rfl ck_X7_114 rfl rfl rfl (Nat.le_of_ble_eq_true rfl) (by decide) rfl (by decide) (t_holderOf hn) rfl ?_
      refine g_iconst (q := 52) dX7_knownBy_51 rfl ⟨by decide, by decide⟩ ?_
      refine g_icmp_eq (t := 61) (q := 55) dX7_knownBy_52 (by decide) rfl (fun h52 => (False.elim (by omega))) (fun h52 => ?_)
      refine g_iload_n (i := 3) (q := 56) dX7_knownBy_55 rfl rfl rfl ?_
      refine g_bipush (q := 58) dX7_knownBy_56 rfl ⟨by decide, by decide⟩ (by decide) ?_
      refine g_icmp_ne (t := 69) (q := 61) dX7_knownBy_58 (by decide) rfl (fun h58 => ?_) (fun h58 => (False.elim (by omega)))
      refine g_iload_n (i := 3) (q := 70) dX7_knownBy_69 rfl rfl rfl ?_
      exact g_ret dX7_knownBy_70 rfl (by decide) hQ
  | succ k ih =>
    intro i w hi hw
    by_cases h1 : S.2.1 56 i = n
    · skip
      refine g_iload (q := 8) dX7_knownBy_6 rfl rfl ?_
      refine g_aload_n (i := 0) (q := 9) dX7_knownBy_8 rfl rfl rfl ?_
      refine g_getr (q := 12) dX7_knownBy_9 rfl fk_X7_65 rfl rfl ?_
      refine g_iload_n (i := 1) (q := 13) dX7_knownBy_12 rfl rfl rfl ?_
      refine g_ildv (q := 14) (z := S.2.1 58 f) dX7_knownBy_13 rfl ⟨by decide, rfl, rfl⟩ (by omega) (by omega) rfl ?_
      refine g_icmp_ge (t := 46) (q := 17) dX7_knownBy_14 (by decide) rfl (fun h14 => (False.elim (by omega))) (fun h14 => ?_)
      refine g_aload_n (i := 0) (q := 18) dX7_knownBy_17 rfl rfl rfl ?_
      refine g_getr (q := 21) dX7_knownBy_18 rfl fk_X7_59 rfl rfl ?_
      refine g_iload (q := 23) dX7_knownBy_21 rfl rfl ?_
      refine g_ildv (q := 24) (z := S.2.1 56 (i : Int)) dX7_knownBy_23 rfl ⟨by decide, rfl, rfl⟩ (by omega) (by omega) rfl ?_
      refine g_iload_n (i := 2) (q := 25) dX7_knownBy_24 rfl rfl rfl ?_
      refine g_icmp_ne (t := 38) (q := 28) dX7_knownBy_25 (by decide) rfl (fun h25 => (False.elim (by omega))) (fun h25 => ?_)
      refine g_aload_n (i := 0) (q := 29) dX7_knownBy_28 rfl rfl rfl ?_
      refine g_getr (q := 32) dX7_knownBy_29 rfl fk_X7_62 rfl rfl ?_
      refine g_iload (q := 34) dX7_knownBy_32 rfl rfl ?_
      refine g_ildv (q := 35) (z := S.2.1 57 (i : Int)) dX7_knownBy_34 rfl ⟨by decide, rfl, rfl⟩ (by omega) (by omega) rfl ?_
      refine g_goto (q := 0) (t := 39) dX7_knownBy_35 (by decide) ?_
      refine g_istore_n (i := 3) (q := 40) dX7_knownBy_39 rfl rfl (by decide) ?_
      refine g_iinc (q := 43) (i := 4) (n := 1) dX7_knownBy_40 rfl rfl (by constructor <;> omega) ?_
      refine g_goto (q := 0) (t := 6) dX7_knownBy_43 (by decide) ?_
      exact ih (i + 1) _ (by omega) (by rw [y_last, if_pos h1])
    · skip
      refine g_iload (q := 8) dX7_knownBy_6 rfl rfl ?_
      refine g_aload_n (i := 0) (q := 9) dX7_knownBy_8 rfl rfl rfl ?_
      refine g_getr (q := 12) dX7_knownBy_9 rfl fk_X7_65 rfl rfl ?_
      refine g_iload_n (i := 1) (q := 13) dX7_knownBy_12 rfl rfl rfl ?_
      refine g_ildv (q := 14) (z := S.2.1 58 f) dX7_knownBy_13 rfl ⟨by decide, rfl, rfl⟩ (by omega) (by omega) rfl ?_
      refine g_icmp_ge (t := 46) (q := 17) dX7_knownBy_14 (by decide) rfl (fun h14 => (False.elim (by omega))) (fun h14 => ?_)
      refine g_aload_n (i := 0) (q := 18) dX7_knownBy_17 rfl rfl rfl ?_
      refine g_getr (q := 21) dX7_knownBy_18 rfl fk_X7_59 rfl rfl ?_
      refine g_iload (q := 23) dX7_knownBy_21 rfl rfl ?_
      refine g_ildv (q := 24) (z := S.2.1 56 (i : Int)) dX7_knownBy_23 rfl ⟨by decide, rfl, rfl⟩ (by omega) (by omega) rfl ?_
      refine g_iload_n (i := 2) (q := 25) dX7_knownBy_24 rfl rfl rfl ?_
      refine g_icmp_ne (t := 38) (q := 28) dX7_knownBy_25 (by decide) rfl (fun h25 => ?_) (fun h25 => (False.elim (by omega)))
      refine g_iload_n (i := 3) (q := 39) dX7_knownBy_38 rfl rfl rfl ?_
      refine g_istore_n (i := 3) (q := 40) dX7_knownBy_39 rfl rfl (by decide) ?_
      refine g_iinc (q := 43) (i := 4) (n := 1) dX7_knownBy_40 rfl rfl (by constructor <;> omega) ?_
      refine g_goto (q := 0) (t := 6) dX7_knownBy_43 (by decide) ?_
      exact ih (i + 1) _ (by omega) (by rw [y_last, if_neg h1]; exact hw)
theorem t_knownBy {S : zS} {f n : Int} (hf : 0 ≤ f ∧ f < 6) (hn : 0 ≤ n ∧ n < 200) (h4 : 0 ≤ S.2.1 58 f ∧ S.2.1 58 f ≤ 4000) : z_Fn mX7_knownBy [zR 7, zI f, zI n] S (some (zI (y_kb S f n))) S := by
  refine z_enter (by decide +kernel) rfl (z_n1 trivial (z_n1 trivial (z_n1 trivial z_n0))) (Nat.le_of_ble_eq_true rfl) ?_
  refine g_bipush (q := 2) dX7_knownBy_0 rfl ⟨by decide, by decide⟩ (by decide) ?_
  refine g_istore_n (i := 3) (q := 3) dX7_knownBy_2 rfl rfl (by decide) ?_
  refine g_iconst (q := 4) dX7_knownBy_3 rfl ⟨by decide, by decide⟩ ?_
  refine g_istore (q := 6) dX7_knownBy_4 rfl (by decide) ?_
  exact l_X7_knownBy (c := (S.2.1 58 f).toNat) hf hn (by omega) (by omega) ⟨rfl, rfl⟩ (S.2.1 58 f).toNat 0 6 (by omega) rfl
def y_wh (S : zS) (f : Int) : Nat → Int
  | 0 => 0
  | k + 1 => if ¬ y_wh S f k = 0 ∨ S.2.1 62 k = f then 1 else 0
theorem y_wh_rng (S : zS) (f : Int) : ∀ k, y_wh S f k = 0 ∨ y_wh S f k = 1
  | 0 => .inl rfl
  | k + 1 => by
    rw [y_wh]
    split
    · exact .inr rfl
    · exact .inl rfl
theorem y_wh_iff (S : zS) (f : Int) : ∀ k, y_wh S f k = 0 ↔ ∀ j : Nat, j < k → ¬ S.2.1 62 j = f
  | 0 => ⟨fun _ j h => absurd h (by omega), fun _ => rfl⟩
  | k + 1 => by
    have h := y_wh_iff S f k
    rw [y_wh]
    constructor
    · intro h1 j hj
      by_cases e : ¬ y_wh S f k = 0 ∨ S.2.1 62 k = f
      · rw [if_pos e] at h1; omega
      · by_cases hjk : j = k
        · subst hjk; exact fun q => e (.inr q)
        · exact h.1 (Classical.byContradiction fun q => e (.inl q)) j (by omega)
    · intro h1
      rw [if_neg]
      rintro (q | q)
      · exact q (h.2 fun j hj => h1 j (by omega))
      · exact h1 k (by omega) q
theorem l_X7_wasHop {Q : zQ} {S : zS} {f : Int} {c : Nat} (hc : S.1 9 = c) (h4 : c ≤ 8) (hQ : Q (.ok (some (zI (y_wh S f c)))) S) : ∀ (k i : Nat) (w : Int), i + k = c → w = y_wh S f i → z_G mX7_wasHop (z_F mX7_wasHop Q) 0 4 [some (zR 7), some (zI f), some (zI w), some (zI (i : Int))] [] S := by
  intro k
  induction k with
  | zero =>
    intro i w hi hw
    have e : i = c := by omega
    subst e
    subst hw
    have hr := y_wh_rng S f i
    refine g_iload_n (i := 3) (q := 5) dX7_wasHop_4 rfl rfl rfl ?_
    refine g_aload_n (i := 0) (q := 6) dX7_wasHop_5 rfl rfl rfl ?_
    refine g_getv (q := 9) (z := S.1 9) dX7_wasHop_6 rfl fk_X7_176 rfl rfl rfl ?_
    refine g_icmp_ge (t := 38) (q := 12) dX7_wasHop_9 (by decide) rfl (fun h9 => ?_) (fun h9 => (False.elim (by omega)))
    refine g_iload_n (i := 2) (q := 39) dX7_wasHop_38 rfl rfl rfl ?_
    exact g_retz dX7_wasHop_39 rfl (by omega) (by decide) hQ
  | succ k ih =>
    intro i w hi hw
    have hr := y_wh_rng S f i
    by_cases h1 : ¬ w = 0 ∨ S.2.1 62 i = f
    · skip
      refine g_iload_n (i := 3) (q := 5) dX7_wasHop_4 rfl rfl rfl ?_
      refine g_aload_n (i := 0) (q := 6) dX7_wasHop_5 rfl rfl rfl ?_
      refine g_getv (q := 9) (z := S.1 9) dX7_wasHop_6 rfl fk_X7_176 rfl rfl rfl ?_
      refine g_icmp_ge (t := 38) (q := 12) dX7_wasHop_9 (by decide) rfl (fun h9 => (False.elim (by omega))) (fun h9 => ?_)
      refine g_iload_n (i := 2) (q := 13) dX7_wasHop_12 rfl rfl rfl ?_
      refine g_if_ne (t := 26) (q := 16) dX7_wasHop_13 (by decide) rfl (fun h13 => ?_) (fun h13 => ?_)
      · refine g_iconst (q := 27) dX7_wasHop_26 rfl ⟨by decide, by decide⟩ ?_
        refine g_goto (q := 0) (t := 31) dX7_wasHop_27 (by decide) ?_
        refine g_istore_n (i := 2) (q := 32) dX7_wasHop_31 rfl rfl (by decide) ?_
        refine g_iinc (q := 35) (i := 3) (n := 1) dX7_wasHop_32 rfl rfl (by constructor <;> omega) ?_
        refine g_goto (q := 0) (t := 4) dX7_wasHop_35 (by decide) ?_
        exact ih (i + 1) _ (by omega) (by rw [y_wh, ← hw, if_pos h1])
      · refine g_aload_n (i := 0) (q := 17) dX7_wasHop_16 rfl rfl rfl ?_
        refine g_getr (q := 20) dX7_wasHop_17 rfl fk_X7_77 rfl rfl ?_
        refine g_iload_n (i := 3) (q := 21) dX7_wasHop_20 rfl rfl rfl ?_
        refine g_ildv (q := 22) (z := S.2.1 62 (i : Int)) dX7_wasHop_21 rfl ⟨by decide, rfl, rfl⟩ (by omega) (by omega) rfl ?_
        refine g_iload_n (i := 1) (q := 23) dX7_wasHop_22 rfl rfl rfl ?_
        refine g_icmp_ne (t := 30) (q := 26) dX7_wasHop_23 (by decide) rfl (fun h23 => ?_) (fun h23 => ?_)
        · exact absurd h1 (by omega)
        · refine g_iconst (q := 27) dX7_wasHop_26 rfl ⟨by decide, by decide⟩ ?_
          refine g_goto (q := 0) (t := 31) dX7_wasHop_27 (by decide) ?_
          refine g_istore_n (i := 2) (q := 32) dX7_wasHop_31 rfl rfl (by decide) ?_
          refine g_iinc (q := 35) (i := 3) (n := 1) dX7_wasHop_32 rfl rfl (by constructor <;> omega) ?_
          refine g_goto (q := 0) (t := 4) dX7_wasHop_35 (by decide) ?_
          exact ih (i + 1) _ (by omega) (by rw [y_wh, ← hw, if_pos h1])
    · skip
      refine g_iload_n (i := 3) (q := 5) dX7_wasHop_4 rfl rfl rfl ?_
      refine g_aload_n (i := 0) (q := 6) dX7_wasHop_5 rfl rfl rfl ?_
      refine g_getv (q := 9) (z := S.1 9) dX7_wasHop_6 rfl fk_X7_176 rfl rfl rfl ?_
      refine g_icmp_ge (t := 38) (q := 12) dX7_wasHop_9 (by decide) rfl (fun h9 => (False.elim (by omega))) (fun h9 => ?_)
      refine g_iload_n (i := 2) (q := 13) dX7_wasHop_12 rfl rfl rfl ?_
      refine g_if_ne (t := 26) (q := 16) dX7_wasHop_13 (by decide) rfl (fun h13 => (False.elim (by omega))) (fun h13 => ?_)
      refine g_aload_n (i := 0) (q := 17) dX7_wasHop_16 rfl rfl rfl ?_
      refine g_getr (q := 20) dX7_wasHop_17 rfl fk_X7_77 rfl rfl ?_
      refine g_iload_n (i := 3) (q := 21) dX7_wasHop_20 rfl rfl rfl ?_
      refine g_ildv (q := 22) (z := S.2.1 62 (i : Int)) dX7_wasHop_21 rfl ⟨by decide, rfl, rfl⟩ (by omega) (by omega) rfl ?_
      refine g_iload_n (i := 1) (q := 23) dX7_wasHop_22 rfl rfl rfl ?_
      refine g_icmp_ne (t := 30) (q := 26) dX7_wasHop_23 (by decide) rfl (fun h23 => ?_) (fun h23 => (False.elim (by omega)))
      refine g_iconst (q := 31) dX7_wasHop_30 rfl ⟨by decide, by decide⟩ ?_
      refine g_istore_n (i := 2) (q := 32) dX7_wasHop_31 rfl rfl (by decide) ?_
      refine g_iinc (q := 35) (i := 3) (n := 1) dX7_wasHop_32 rfl rfl (by constructor <;> omega) ?_
      refine g_goto (q := 0) (t := 4) dX7_wasHop_35 (by decide) ?_
      exact ih (i + 1) _ (by omega) (by rw [y_wh, ← hw, if_neg h1])
theorem t_wasHop {S : zS} {f : Int} {c : Nat} (hc : S.1 9 = c) (h4 : c ≤ 8) : z_Fn mX7_wasHop [zR 7, zI f] S (some (zI (y_wh S f c))) S := by
  refine z_enter (by decide +kernel) rfl (z_n1 trivial (z_n1 trivial z_n0)) (Nat.le_of_ble_eq_true rfl) ?_
  refine g_iconst (q := 1) dX7_wasHop_0 rfl ⟨by decide, by decide⟩ ?_
  refine g_istore_n (i := 2) (q := 2) dX7_wasHop_1 rfl rfl (by decide) ?_
  refine g_iconst (q := 3) dX7_wasHop_2 rfl ⟨by decide, by decide⟩ ?_
  refine g_istore_n (i := 3) (q := 4) dX7_wasHop_3 rfl rfl (by decide) ?_
  exact l_X7_wasHop hc h4 ⟨rfl, rfl⟩ c 0 0 (by omega) rfl
def y_ht (S : zS) (f : Int) : zS := z_sS (z_sA S 62 (S.1 9) f) 9 (S.1 9 + 1)
theorem t_hopsTo {S : zS} {f : Int} (h0 : 0 ≤ S.1 9 ∧ S.1 9 < 8) : z_Fn mX7_hopsTo [zR 7, zI f] S none (y_ht S f) := by
  refine z_enter (by decide +kernel) rfl (z_n1 trivial (z_n1 trivial z_n0)) (Nat.le_of_ble_eq_true rfl) ?_
  refine g_aload_n (i := 0) (q := 1) dX7_hopsTo_0 rfl rfl rfl ?_
  refine g_getr (q := 4) dX7_hopsTo_1 rfl fk_X7_77 rfl rfl ?_
  refine g_aload_n (i := 0) (q := 5) dX7_hopsTo_4 rfl rfl rfl ?_
  refine g_getv (q := 8) (z := S.1 9) dX7_hopsTo_5 rfl fk_X7_176 rfl rfl rfl ?_
  refine g_iload_n (i := 1) (q := 9) dX7_hopsTo_8 rfl rfl rfl ?_
  refine g_iast (q := 10) dX7_hopsTo_9 rfl ⟨by decide, rfl, rfl⟩ (by omega) (by omega) ?_
  refine g_aload_n (i := 0) (q := 11) dX7_hopsTo_10 rfl rfl rfl ?_
  refine g_dup (q := 12) dX7_hopsTo_11 rfl trivial ?_
  refine g_getv (q := 15) (z := S.1 9) dX7_hopsTo_12 rfl fk_X7_176 rfl rfl rfl ?_
  refine g_iconst (q := 16) dX7_hopsTo_15 rfl ⟨by decide, by decide⟩ ?_
  refine g_iadd (q := 17) dX7_hopsTo_16 rfl (by constructor <;> omega) ?_
  refine g_put (q := 20) dX7_hopsTo_17 rfl fk_X7_176 fp_7_26 rfl rfl ?_
  exact g_retv dX7_hopsTo_20 rfl (by decide) (by first | exact ⟨rfl, rfl⟩ | (exfalso; omega))
/-! seven hops can't be six firms, each once -/
theorem y_php : ∀ (n : Nat) (g : Nat → Int), (∀ j, j ≤ n → 0 ≤ g j ∧ g j < n) → ∃ j l, l < j ∧ j ≤ n ∧ g j = g l
  | 0, g, h => by have := h 0 (by omega); omega
  | n + 1, g, h => by
    have hl := h (n + 1) (by omega)
    by_cases hex : ∃ l, l < n + 1 ∧ g (n + 1) = g l
    · obtain ⟨l, h1, h2⟩ := hex
      exact ⟨n + 1, l, h1, by omega, h2⟩
    · have hne : ∀ l, l < n + 1 → ¬ g (n + 1) = g l := fun l a b => hex ⟨l, a, b⟩
      obtain ⟨j, l, h1, h2, h3⟩ := y_php n (fun j => if g j = n then g (n + 1) else g j) (fun j hj => by
        have hj1 := h j (by omega)
        have hj2 := hne j (by omega)
        show 0 ≤ (if g j = n then g (n + 1) else g j) ∧ (if g j = n then g (n + 1) else g j) < n
        split <;> omega)
      refine ⟨j, l, h1, by omega, ?_⟩
      have h3' : (if g j = n then g (n + 1) else g j) = (if g l = n then g (n + 1) else g l) := h3
      have a := hne j (by omega)
      have b := hne l (by omega)
      split at h3' <;> split at h3' <;> omega
def y_at (S : zS) (i : Nat) : Int := S.2.1 62 ((i : Int) - 1)
def y_rd (S : zS) (w h : Int) (i : Nat) : Int := if w = 2 ∧ i = 2 ∧ h = S.2.1 62 ((i : Int) - 1) then S.2.1 62 0 else S.2.1 62 ((i : Int) - 1)
def y_nx (S : zS) (n w h : Int) (i : Nat) : Int := if ¬ w = 0 ∧ i = 1 ∧ ¬ h = S.2.1 62 ((i : Int) - 1) then h else y_kb S (y_rd S w h i) n
def y_gs (S : zS) (n w h : Int) : Nat → Nat → zS × Int
  | _, 0 => (S, 3)
  | i, k + 1 =>
    if S.2.1 42 n = S.2.1 62 ((i : Int) - 1) then (S, 0)
    else if ¬ S.2.1 41 (S.2.1 62 ((i : Int) - 1)) = 0 then (S, 4)
    else if y_nx S n w h i = S.2.1 62 ((i : Int) - 1) ∨ y_nx S n w h i = y_rd S w h i then (S, 4)
    else if y_wh S (y_nx S n w h i) i = 1 then (y_ht S (y_nx S n w h i), 3)
    else y_gs (y_ht S (y_nx S n w h i)) n w h (i + 1) k
/-- what a walk needs -/
def yT (S : zS) (n h : Int) (i : Nat) : Prop := S.1 9 = i ∧ (1 ≤ i ∧ i ≤ 7) ∧ (0 ≤ n ∧ n < 200) ∧ (0 ≤ h ∧ h < 6) ∧ S.2.1 40 (n / 10) = h ∧ (∀ f : Int, 0 ≤ f → f < 6 → 0 ≤ S.2.1 58 f ∧ S.2.1 58 f ≤ 4000) ∧ (∀ k : Nat, 0 ≤ y_last S n k ∧ y_last S n k ≤ 6) ∧ (∀ j : Int, 0 ≤ j → j < i → 0 ≤ S.2.1 62 j ∧ S.2.1 62 j < 6) ∧ (∀ j l : Nat, l < j → j < i → ¬ S.2.1 62 j = S.2.1 62 l) ∧ (∀ f : Int, 0 ≤ f → f < 6 → S.2.1 41 f = 0 ∨ S.2.1 41 f = 1)
theorem y_rd_rng {S : zS} {n w h : Int} {i : Nat} (T : yT S n h i) : 0 ≤ y_rd S w h i ∧ y_rd S w h i < 6 := by
  obtain ⟨t1, t2, t3, t4, t5, t6, t7, t8, t9⟩ := T
  unfold y_rd
  split
  · exact t8 0 (by omega) (by omega)
  · exact t8 _ (by omega) (by omega)
theorem y_nx_rng {S : zS} {n w h : Int} {i : Nat} (T : yT S n h i) : 0 ≤ y_nx S n w h i ∧ y_nx S n w h i < 6 := by
  obtain ⟨t1, t2, t3, t4, t5, t6, t7, t8, t9⟩ := T
  have h7 := t7 (S.2.1 58 (y_rd S w h i)).toNat
  unfold y_nx
  split
  · exact t4
  · unfold y_kb
    split <;> omega
theorem y_last_cong {S T : zS} {n : Int} (h1 : ∀ j, T.2.1 56 j = S.2.1 56 j) (h2 : ∀ j, T.2.1 57 j = S.2.1 57 j) : ∀ k, y_last T n k = y_last S n k
  | 0 => rfl
  | k + 1 => by rw [y_last, y_last, h1, h2, y_last_cong h1 h2 k]
theorem y_ht_ne {S : zS} {x : Int} {k : Nat} {j : Int} (h : k ≠ 62) : (y_ht S x).2.1 k j = S.2.1 k j := by
  unfold y_ht
  rw [za_sS, za_ne h]
theorem y_ht_62 {S : zS} {x j : Int} : (y_ht S x).2.1 62 j = if j = S.1 9 then x else S.2.1 62 j := by
  unfold y_ht
  rw [za_sS, za_sA]
  simp
theorem yT_ht {S : zS} {n h x : Int} {i : Nat} (T : yT S n h i) (hi : i ≤ 6) (hx : 0 ≤ x ∧ x < 6) (hw : y_wh S x i = 0) : yT (y_ht S x) n h (i + 1) := by
  have hw2 := (y_wh_iff S x i).1 hw
  obtain ⟨t1, t2, t3, t4, t5, t6, t7, t8, t9, t10⟩ := T
  refine ⟨show S.1 9 + 1 = _ by omega, by omega, t3, t4, by rw [y_ht_ne (by omega)]; exact t5, fun f a b => by rw [y_ht_ne (by omega)]; exact t6 f a b, fun k => ?_, fun j a b => ?_, fun j l a b => ?_, fun f a b => by rw [y_ht_ne (by omega)]; exact t10 f a b⟩
  · rw [y_last_cong (fun j => y_ht_ne (by omega)) (fun j => y_ht_ne (by omega))]
    exact t7 k
  · rw [y_ht_62]
    split
    · exact hx
    · exact t8 j a (by omega)
  · rw [y_ht_62, y_ht_62]
    have e1 : ¬ (l : Int) = S.1 9 := by omega
    rw [if_neg e1]
    by_cases e2 : (j : Int) = S.1 9
    · rw [if_pos e2]
      exact fun q => hw2 l (by omega) q.symm
    · rw [if_neg e2]
      exact t9 j l a (by omega)
theorem l_X7_goes {Q : zQ} {n w h : Int} : ∀ (k i : Nat) (S : zS), i + k = 7 → yT S n h i → Q (.ok (some (zI (y_gs S n w h i k).2))) (y_gs S n w h i k).1 →
    ∀ v4 v5 v6 v7 v8, z_G mX7_goes (z_F mX7_goes Q) 0 6 [some (zR 7), some (zI n), some (zI w), some (zI h), v4, v5, v6, v7, v8] [] S := by
  intro k
  induction k with
  | zero =>
    intro i S hi T hQ v4 v5 v6 v7 v8
    obtain ⟨t1, t2, t3, t4, t5, t6, t7, t8, t9, t10⟩ := T
    obtain ⟨j, l, a, b, e⟩ := y_php 6 (fun j => S.2.1 62 j) (fun j hj => t8 j (by omega) (by omega))
    exact absurd e (t9 j l a (by omega))
  | succ k ih =>
    intro i S hi T hQ v4 v5 v6 v7 v8
    obtain ⟨t1, t2, t3, t4, t5, t6, t7, t8, t9, t10⟩ := id T
    have hh := t8 ((i : Int) - 1) (by omega) (by omega)
    have hh0 := t8 0 (by omega) (by omega)
    have hg := t10 (S.2.1 62 ((i : Int) - 1)) hh.1 hh.2
    have hrd := y_rd_rng (w := w) T
    have hnx := y_nx_rng (w := w) T
    rw [y_gs] at hQ
    have kC : S.2.1 42 n ≠ S.2.1 62 ((i : Int) - 1) → S.2.1 41 (S.2.1 62 ((i : Int) - 1)) = 0 → ∀ v5 b v8, ((b = 1 ∧ y_rd S w h i = S.2.1 62 0) ∨ (b = 0 ∧ y_rd S w h i = S.2.1 62 ((i : Int) - 1))) → z_G mX7_goes (z_F mX7_goes Q) 0 127 [some (zR 7), some (zI n), some (zI w), some (zI h), some (zI (S.2.1 62 ((i : Int) - 1))), v5, some (zI b), some (zI (y_nx S n w h i)), v8] [] S := by
      intro g1 g2 v5 b v8 hb
      rw [if_neg g1, if_neg (fun q => q g2)] at hQ
      have hwr := y_wh_rng S (y_nx S n w h i) i
      by_cases e1 : y_wh S (y_nx S n w h i) i = 1
      · rw [if_pos e1] at hQ
        refine g_iload (q := 129) dX7_goes_127 rfl rfl ?_
        refine g_iload (q := 131) dX7_goes_129 rfl rfl ?_
        refine g_icmp_eq (t := 150) (q := 134) dX7_goes_131 (by decide) rfl (fun h131 => ?_) (fun h131 => ?_)
        · refine g_iconst (q := 151) dX7_goes_150 rfl ⟨by decide, by decide⟩ ?_
          exact g_ret dX7_goes_151 rfl (by decide) (by rw [if_pos (by omega)] at hQ; exact hQ)
        · refine g_iload (q := 136) dX7_goes_134 rfl rfl ?_
          refine g_if_eq (t := 152) (q := 139) dX7_goes_136 (by decide) rfl (fun h136 => ?_) (fun h136 => ?_)
          · refine g_aload_n (i := 0) (q := 153) dX7_goes_152 rfl rfl rfl ?_
            refine g_iload (q := 155) dX7_goes_153 rfl rfl ?_
            refine g_fnV (as := [zI (y_nx S n w h i)]) (q := 158) (u' := 0) dX7_goes_155 rfl ck_X7_179 rfl rfl rfl (Nat.le_of_ble_eq_true rfl) (by decide) rfl (by decide) (t_wasHop t1 (by omega)) rfl ?_
            refine g_istore (q := 160) dX7_goes_158 rfl (by decide) ?_
            refine g_aload_n (i := 0) (q := 161) dX7_goes_160 rfl rfl rfl ?_
            refine g_iload (q := 163) dX7_goes_161 rfl rfl ?_
            refine g_fnV (as := [zI (y_nx S n w h i)]) (q := 166) (u' := 0) dX7_goes_163 rfl ck_X7_182 rfl rfl rfl (Nat.le_of_ble_eq_true rfl) (by decide) rfl (by decide) (t_hopsTo (by omega)) rfl ?_
            refine g_iload (q := 168) dX7_goes_166 rfl rfl ?_
            refine g_if_eq (t := 173) (q := 171) dX7_goes_168 (by decide) rfl (fun h168 => (False.elim (by omega))) (fun h168 => ?_)
            refine g_iconst (q := 172) dX7_goes_171 rfl ⟨by decide, by decide⟩ ?_
            exact g_ret dX7_goes_172 rfl (by decide) (by rw [if_neg (by omega)] at hQ; exact hQ)
          · refine g_iload (q := 141) dX7_goes_139 rfl rfl ?_
            refine g_aload_n (i := 0) (q := 142) dX7_goes_141 rfl rfl rfl ?_
            refine g_getr (q := 145) dX7_goes_142 rfl fk_X7_77 rfl rfl ?_
            refine g_iconst (q := 146) dX7_goes_145 rfl ⟨by decide, by decide⟩ ?_
            refine g_ildv (q := 147) (z := S.2.1 62 0) dX7_goes_146 rfl ⟨by decide, rfl, rfl⟩ (by omega) (by omega) rfl ?_
            refine g_icmp_ne (t := 152) (q := 150) dX7_goes_147 (by decide) rfl (fun h147 => ?_) (fun h147 => ?_)
            · refine g_aload_n (i := 0) (q := 153) dX7_goes_152 rfl rfl rfl ?_
              refine g_iload (q := 155) dX7_goes_153 rfl rfl ?_
              refine g_fnV (as := [zI (y_nx S n w h i)]) (q := 158) (u' := 0) dX7_goes_155 rfl ck_X7_179 rfl rfl rfl (Nat.le_of_ble_eq_true rfl) (by decide) rfl (by decide) (t_wasHop t1 (by omega)) rfl ?_
              refine g_istore (q := 160) dX7_goes_158 rfl (by decide) ?_
              refine g_aload_n (i := 0) (q := 161) dX7_goes_160 rfl rfl rfl ?_
              refine g_iload (q := 163) dX7_goes_161 rfl rfl ?_
              refine g_fnV (as := [zI (y_nx S n w h i)]) (q := 166) (u' := 0) dX7_goes_163 rfl ck_X7_182 rfl rfl rfl (Nat.le_of_ble_eq_true rfl) (by decide) rfl (by decide) (t_hopsTo (by omega)) rfl ?_
              refine g_iload (q := 168) dX7_goes_166 rfl rfl ?_
              refine g_if_eq (t := 173) (q := 171) dX7_goes_168 (by decide) rfl (fun h168 => (False.elim (by omega))) (fun h168 => ?_)
              refine g_iconst (q := 172) dX7_goes_171 rfl ⟨by decide, by decide⟩ ?_
              exact g_ret dX7_goes_172 rfl (by decide) (by rw [if_neg (by omega)] at hQ; exact hQ)
            · refine g_iconst (q := 151) dX7_goes_150 rfl ⟨by decide, by decide⟩ ?_
              exact g_ret dX7_goes_151 rfl (by decide) (by rw [if_pos (by omega)] at hQ; exact hQ)
      · rw [if_neg e1] at hQ
        have e0 : y_wh S (y_nx S n w h i) i = 0 := by omega
        refine g_iload (q := 129) dX7_goes_127 rfl rfl ?_
        refine g_iload (q := 131) dX7_goes_129 rfl rfl ?_
        refine g_icmp_eq (t := 150) (q := 134) dX7_goes_131 (by decide) rfl (fun h131 => ?_) (fun h131 => ?_)
        · refine g_iconst (q := 151) dX7_goes_150 rfl ⟨by decide, by decide⟩ ?_
          exact g_ret dX7_goes_151 rfl (by decide) (by rw [if_pos (by omega)] at hQ; exact hQ)
        · refine g_iload (q := 136) dX7_goes_134 rfl rfl ?_
          refine g_if_eq (t := 152) (q := 139) dX7_goes_136 (by decide) rfl (fun h136 => ?_) (fun h136 => ?_)
          · refine g_aload_n (i := 0) (q := 153) dX7_goes_152 rfl rfl rfl ?_
            refine g_iload (q := 155) dX7_goes_153 rfl rfl ?_
            refine g_fnV (as := [zI (y_nx S n w h i)]) (q := 158) (u' := 0) dX7_goes_155 rfl ck_X7_179 rfl rfl rfl (Nat.le_of_ble_eq_true rfl) (by decide) rfl (by decide) (t_wasHop t1 (by omega)) rfl ?_
            refine g_istore (q := 160) dX7_goes_158 rfl (by decide) ?_
            refine g_aload_n (i := 0) (q := 161) dX7_goes_160 rfl rfl rfl ?_
            refine g_iload (q := 163) dX7_goes_161 rfl rfl ?_
            refine g_fnV (as := [zI (y_nx S n w h i)]) (q := 166) (u' := 0) dX7_goes_163 rfl ck_X7_182 rfl rfl rfl (Nat.le_of_ble_eq_true rfl) (by decide) rfl (by decide) (t_hopsTo (by omega)) rfl ?_
            refine g_iload (q := 168) dX7_goes_166 rfl rfl ?_
            refine g_if_eq (t := 173) (q := 171) dX7_goes_168 (by decide) rfl (fun h168 => ?_) (fun h168 => (False.elim (by omega)))
            refine g_goto (q := 0) (t := 6) dX7_goes_173 (by decide) ?_
            exact ih (i + 1) _ (by omega) (yT_ht T (by omega) hnx e0) (by rw [if_neg (by omega)] at hQ; exact hQ) _ _ _ _ _
          · refine g_iload (q := 141) dX7_goes_139 rfl rfl ?_
            refine g_aload_n (i := 0) (q := 142) dX7_goes_141 rfl rfl rfl ?_
            refine g_getr (q := 145) dX7_goes_142 rfl fk_X7_77 rfl rfl ?_
            refine g_iconst (q := 146) dX7_goes_145 rfl ⟨by decide, by decide⟩ ?_
            refine g_ildv (q := 147) (z := S.2.1 62 0) dX7_goes_146 rfl ⟨by decide, rfl, rfl⟩ (by omega) (by omega) rfl ?_
            refine g_icmp_ne (t := 152) (q := 150) dX7_goes_147 (by decide) rfl (fun h147 => ?_) (fun h147 => ?_)
            · refine g_aload_n (i := 0) (q := 153) dX7_goes_152 rfl rfl rfl ?_
              refine g_iload (q := 155) dX7_goes_153 rfl rfl ?_
              refine g_fnV (as := [zI (y_nx S n w h i)]) (q := 158) (u' := 0) dX7_goes_155 rfl ck_X7_179 rfl rfl rfl (Nat.le_of_ble_eq_true rfl) (by decide) rfl (by decide) (t_wasHop t1 (by omega)) rfl ?_
              refine g_istore (q := 160) dX7_goes_158 rfl (by decide) ?_
              refine g_aload_n (i := 0) (q := 161) dX7_goes_160 rfl rfl rfl ?_
              refine g_iload (q := 163) dX7_goes_161 rfl rfl ?_
              refine g_fnV (as := [zI (y_nx S n w h i)]) (q := 166) (u' := 0) dX7_goes_163 rfl ck_X7_182 rfl rfl rfl (Nat.le_of_ble_eq_true rfl) (by decide) rfl (by decide) (t_hopsTo (by omega)) rfl ?_
              refine g_iload (q := 168) dX7_goes_166 rfl rfl ?_
              refine g_if_eq (t := 173) (q := 171) dX7_goes_168 (by decide) rfl (fun h168 => ?_) (fun h168 => (False.elim (by omega)))
              refine g_goto (q := 0) (t := 6) dX7_goes_173 (by decide) ?_
              exact ih (i + 1) _ (by omega) (yT_ht T (by omega) hnx e0) (by rw [if_neg (by omega)] at hQ; exact hQ) _ _ _ _ _
            · refine g_iconst (q := 151) dX7_goes_150 rfl ⟨by decide, by decide⟩ ?_
              exact g_ret dX7_goes_151 rfl (by decide) (by rw [if_pos (by omega)] at hQ; exact hQ)
    by_cases g1 : S.2.1 42 n = S.2.1 62 ((i : Int) - 1)
    · rw [if_pos g1] at hQ
      refine g_aload_n (i := 0) (q := 7) dX7_goes_6 rfl rfl rfl ?_
      refine g_getr (q := 10) dX7_goes_7 rfl fk_X7_77 rfl rfl ?_
      refine g_aload_n (i := 0) (q := 11) dX7_goes_10 rfl rfl rfl ?_
      refine g_getv (q := 14) (z := S.1 9) dX7_goes_11 rfl fk_X7_176 rfl rfl rfl ?_
      refine g_iconst (q := 15) dX7_goes_14 rfl ⟨by decide, by decide⟩ ?_
      refine g_isub (q := 16) dX7_goes_15 rfl (by constructor <;> omega) ?_
      refine g_ildv (q := 17) (z := S.2.1 62 ((i : Int) - 1)) dX7_goes_16 rfl ⟨by decide, rfl, rfl⟩ (by omega) (by omega) (by rw [t1]) ?_
      refine g_istore (q := 19) dX7_goes_17 rfl (by decide) ?_
      refine g_aload_n (i := 0) (q := 20) dX7_goes_19 rfl rfl rfl ?_
      refine g_getr (q := 23) dX7_goes_20 rfl fk_X7_17 rfl rfl ?_
      refine g_iload_n (i := 1) (q := 24) dX7_goes_23 rfl rfl rfl ?_
      refine g_ildv (q := 25) (z := S.2.1 42 n) dX7_goes_24 rfl ⟨by decide, rfl, rfl⟩ (by omega) (by omega) rfl ?_
      refine g_iload (q := 27) dX7_goes_25 rfl rfl ?_
      refine g_icmp_ne (t := 32) (q := 30) dX7_goes_27 (by decide) rfl (fun h27 => (False.elim (by omega))) (fun h27 => ?_)
      refine g_iconst (q := 31) dX7_goes_30 rfl ⟨by decide, by decide⟩ ?_
      exact g_ret dX7_goes_31 rfl (by decide) hQ
    · by_cases g2 : S.2.1 41 (S.2.1 62 ((i : Int) - 1)) = 0
      · by_cases gh : ¬ w = 0 ∧ i = 1 ∧ ¬ h = S.2.1 62 ((i : Int) - 1)
        · have e : y_nx S n w h i = h := by unfold y_nx; rw [if_pos gh]
          have er : y_rd S w h i = S.2.1 62 ((i : Int) - 1) := by unfold y_rd; rw [if_neg (by omega)]
          rw [e] at kC
          refine g_aload_n (i := 0) (q := 7) dX7_goes_6 rfl rfl rfl ?_
          refine g_getr (q := 10) dX7_goes_7 rfl fk_X7_77 rfl rfl ?_
          refine g_aload_n (i := 0) (q := 11) dX7_goes_10 rfl rfl rfl ?_
          refine g_getv (q := 14) (z := S.1 9) dX7_goes_11 rfl fk_X7_176 rfl rfl rfl ?_
          refine g_iconst (q := 15) dX7_goes_14 rfl ⟨by decide, by decide⟩ ?_
          refine g_isub (q := 16) dX7_goes_15 rfl (by constructor <;> omega) ?_
          refine g_ildv (q := 17) (z := S.2.1 62 ((i : Int) - 1)) dX7_goes_16 rfl ⟨by decide, rfl, rfl⟩ (by omega) (by omega) (by rw [t1]) ?_
          refine g_istore (q := 19) dX7_goes_17 rfl (by decide) ?_
          refine g_aload_n (i := 0) (q := 20) dX7_goes_19 rfl rfl rfl ?_
          refine g_getr (q := 23) dX7_goes_20 rfl fk_X7_17 rfl rfl ?_
          refine g_iload_n (i := 1) (q := 24) dX7_goes_23 rfl rfl rfl ?_
          refine g_ildv (q := 25) (z := S.2.1 42 n) dX7_goes_24 rfl ⟨by decide, rfl, rfl⟩ (by omega) (by omega) rfl ?_
          refine g_iload (q := 27) dX7_goes_25 rfl rfl ?_
          refine g_icmp_ne (t := 32) (q := 30) dX7_goes_27 (by decide) rfl (fun h27 => ?_) (fun h27 => (False.elim (by omega)))
          refine g_aload_n (i := 0) (q := 33) dX7_goes_32 rfl rfl rfl ?_
          refine g_getr (q := 36) dX7_goes_33 rfl fk_X7_13 rfl rfl ?_
          refine g_iload (q := 38) dX7_goes_36 rfl rfl ?_
          refine g_zldv (q := 39) (z := S.2.1 41 (S.2.1 62 ((i : Int) - 1))) dX7_goes_38 rfl ⟨by decide, rfl, rfl⟩ (by omega) (by omega) rfl ?_
          refine g_if_eq (t := 44) (q := 42) dX7_goes_39 (by decide) rfl (fun h39 => ?_) (fun h39 => (False.elim (by omega)))
          refine g_iload_n (i := 2) (q := 45) dX7_goes_44 rfl rfl rfl ?_
          refine g_if_eq (t := 66) (q := 48) dX7_goes_45 (by decide) rfl (fun h45 => (False.elim (by omega))) (fun h45 => ?_)
          refine g_aload_n (i := 0) (q := 49) dX7_goes_48 rfl rfl rfl ?_
          refine g_getv (q := 52) (z := S.1 9) dX7_goes_49 rfl fk_X7_176 rfl rfl rfl ?_
          refine g_iconst (q := 53) dX7_goes_52 rfl ⟨by decide, by decide⟩ ?_
          refine g_icmp_ne (t := 66) (q := 56) dX7_goes_53 (by decide) rfl (fun h53 => (False.elim (by omega))) (fun h53 => ?_)
          refine g_iload_n (i := 3) (q := 57) dX7_goes_56 rfl rfl rfl ?_
          refine g_iload (q := 59) dX7_goes_57 rfl rfl ?_
          refine g_icmp_eq (t := 66) (q := 62) dX7_goes_59 (by decide) rfl (fun h59 => (False.elim (by omega))) (fun h59 => ?_)
          refine g_iconst (q := 63) dX7_goes_62 rfl ⟨by decide, by decide⟩ ?_
          refine g_goto (q := 0) (t := 67) dX7_goes_63 (by decide) ?_
          refine g_istore (q := 69) dX7_goes_67 rfl (by decide) ?_
          refine g_iload_n (i := 2) (q := 70) dX7_goes_69 rfl rfl rfl ?_
          refine g_iconst (q := 71) dX7_goes_70 rfl ⟨by decide, by decide⟩ ?_
          refine g_icmp_ne (t := 92) (q := 74) dX7_goes_71 (by decide) rfl (fun h71 => ?_) (fun h71 => ?_)
          · refine g_iconst (q := 93) dX7_goes_92 rfl ⟨by decide, by decide⟩ ?_
            refine g_istore (q := 95) dX7_goes_93 rfl (by decide) ?_
            refine g_iload (q := 97) dX7_goes_95 rfl rfl ?_
            refine g_if_eq (t := 104) (q := 100) dX7_goes_97 (by decide) rfl (fun h97 => (False.elim (by omega))) (fun h97 => ?_)
            refine g_iload_n (i := 3) (q := 101) dX7_goes_100 rfl rfl rfl ?_
            refine g_goto (q := 0) (t := 125) dX7_goes_101 (by decide) ?_
            refine g_istore (q := 127) dX7_goes_125 rfl (by decide) ?_
            exact kC g1 g2 _ _ _ (.inr ⟨rfl, er⟩)
          · refine g_aload_n (i := 0) (q := 75) dX7_goes_74 rfl rfl rfl ?_
            refine g_getv (q := 78) (z := S.1 9) dX7_goes_75 rfl fk_X7_176 rfl rfl rfl ?_
            refine g_iconst (q := 79) dX7_goes_78 rfl ⟨by decide, by decide⟩ ?_
            refine g_icmp_ne (t := 92) (q := 82) dX7_goes_79 (by decide) rfl (fun h79 => ?_) (fun h79 => (False.elim (by omega)))
            refine g_iconst (q := 93) dX7_goes_92 rfl ⟨by decide, by decide⟩ ?_
            refine g_istore (q := 95) dX7_goes_93 rfl (by decide) ?_
            refine g_iload (q := 97) dX7_goes_95 rfl rfl ?_
            refine g_if_eq (t := 104) (q := 100) dX7_goes_97 (by decide) rfl (fun h97 => (False.elim (by omega))) (fun h97 => ?_)
            refine g_iload_n (i := 3) (q := 101) dX7_goes_100 rfl rfl rfl ?_
            refine g_goto (q := 0) (t := 125) dX7_goes_101 (by decide) ?_
            refine g_istore (q := 127) dX7_goes_125 rfl (by decide) ?_
            exact kC g1 g2 _ _ _ (.inr ⟨rfl, er⟩)
        · by_cases gd : w = 2 ∧ i = 2 ∧ h = S.2.1 62 ((i : Int) - 1)
          · have er : y_rd S w h i = S.2.1 62 0 := by unfold y_rd; rw [if_pos gd]
            have e : y_nx S n w h i = y_kb S (S.2.1 62 0) n := by unfold y_nx; rw [if_neg gh, er]
            rw [e] at kC
            refine g_aload_n (i := 0) (q := 7) dX7_goes_6 rfl rfl rfl ?_
            refine g_getr (q := 10) dX7_goes_7 rfl fk_X7_77 rfl rfl ?_
            refine g_aload_n (i := 0) (q := 11) dX7_goes_10 rfl rfl rfl ?_
            refine g_getv (q := 14) (z := S.1 9) dX7_goes_11 rfl fk_X7_176 rfl rfl rfl ?_
            refine g_iconst (q := 15) dX7_goes_14 rfl ⟨by decide, by decide⟩ ?_
            refine g_isub (q := 16) dX7_goes_15 rfl (by constructor <;> omega) ?_
            refine g_ildv (q := 17) (z := S.2.1 62 ((i : Int) - 1)) dX7_goes_16 rfl ⟨by decide, rfl, rfl⟩ (by omega) (by omega) (by rw [t1]) ?_
            refine g_istore (q := 19) dX7_goes_17 rfl (by decide) ?_
            refine g_aload_n (i := 0) (q := 20) dX7_goes_19 rfl rfl rfl ?_
            refine g_getr (q := 23) dX7_goes_20 rfl fk_X7_17 rfl rfl ?_
            refine g_iload_n (i := 1) (q := 24) dX7_goes_23 rfl rfl rfl ?_
            refine g_ildv (q := 25) (z := S.2.1 42 n) dX7_goes_24 rfl ⟨by decide, rfl, rfl⟩ (by omega) (by omega) rfl ?_
            refine g_iload (q := 27) dX7_goes_25 rfl rfl ?_
            refine g_icmp_ne (t := 32) (q := 30) dX7_goes_27 (by decide) rfl (fun h27 => ?_) (fun h27 => (False.elim (by omega)))
            refine g_aload_n (i := 0) (q := 33) dX7_goes_32 rfl rfl rfl ?_
            refine g_getr (q := 36) dX7_goes_33 rfl fk_X7_13 rfl rfl ?_
            refine g_iload (q := 38) dX7_goes_36 rfl rfl ?_
            refine g_zldv (q := 39) (z := S.2.1 41 (S.2.1 62 ((i : Int) - 1))) dX7_goes_38 rfl ⟨by decide, rfl, rfl⟩ (by omega) (by omega) rfl ?_
            refine g_if_eq (t := 44) (q := 42) dX7_goes_39 (by decide) rfl (fun h39 => ?_) (fun h39 => (False.elim (by omega)))
            refine g_iload_n (i := 2) (q := 45) dX7_goes_44 rfl rfl rfl ?_
            refine g_if_eq (t := 66) (q := 48) dX7_goes_45 (by decide) rfl (fun h45 => (False.elim (by omega))) (fun h45 => ?_)
            refine g_aload_n (i := 0) (q := 49) dX7_goes_48 rfl rfl rfl ?_
            refine g_getv (q := 52) (z := S.1 9) dX7_goes_49 rfl fk_X7_176 rfl rfl rfl ?_
            refine g_iconst (q := 53) dX7_goes_52 rfl ⟨by decide, by decide⟩ ?_
            refine g_icmp_ne (t := 66) (q := 56) dX7_goes_53 (by decide) rfl (fun h53 => ?_) (fun h53 => (False.elim (by omega)))
            refine g_iconst (q := 67) dX7_goes_66 rfl ⟨by decide, by decide⟩ ?_
            refine g_istore (q := 69) dX7_goes_67 rfl (by decide) ?_
            refine g_iload_n (i := 2) (q := 70) dX7_goes_69 rfl rfl rfl ?_
            refine g_iconst (q := 71) dX7_goes_70 rfl ⟨by decide, by decide⟩ ?_
            refine g_icmp_ne (t := 92) (q := 74) dX7_goes_71 (by decide) rfl (fun h71 => (False.elim (by omega))) (fun h71 => ?_)
            refine g_aload_n (i := 0) (q := 75) dX7_goes_74 rfl rfl rfl ?_
            refine g_getv (q := 78) (z := S.1 9) dX7_goes_75 rfl fk_X7_176 rfl rfl rfl ?_
            refine g_iconst (q := 79) dX7_goes_78 rfl ⟨by decide, by decide⟩ ?_
            refine g_icmp_ne (t := 92) (q := 82) dX7_goes_79 (by decide) rfl (fun h79 => (False.elim (by omega))) (fun h79 => ?_)
            refine g_iload_n (i := 3) (q := 83) dX7_goes_82 rfl rfl rfl ?_
            refine g_iload (q := 85) dX7_goes_83 rfl rfl ?_
            refine g_icmp_ne (t := 92) (q := 88) dX7_goes_85 (by decide) rfl (fun h85 => (False.elim (by omega))) (fun h85 => ?_)
            refine g_iconst (q := 89) dX7_goes_88 rfl ⟨by decide, by decide⟩ ?_
            refine g_goto (q := 0) (t := 93) dX7_goes_89 (by decide) ?_
            refine g_istore (q := 95) dX7_goes_93 rfl (by decide) ?_
            refine g_iload (q := 97) dX7_goes_95 rfl rfl ?_
            refine g_if_eq (t := 104) (q := 100) dX7_goes_97 (by decide) rfl (fun h97 => ?_) (fun h97 => (False.elim (by omega)))
            refine g_aload_n (i := 0) (q := 105) dX7_goes_104 rfl rfl rfl ?_
            refine g_iload (q := 107) dX7_goes_105 rfl rfl ?_
            refine g_if_eq (t := 119) (q := 110) dX7_goes_107 (by decide) rfl (fun h107 => (False.elim (by omega))) (fun h107 => ?_)
            refine g_aload_n (i := 0) (q := 111) dX7_goes_110 rfl rfl rfl ?_
            refine g_getr (q := 114) dX7_goes_111 rfl fk_X7_77 rfl rfl ?_
            refine g_iconst (q := 115) dX7_goes_114 rfl ⟨by decide, by decide⟩ ?_
            refine g_ildv (q := 116) (z := S.2.1 62 0) dX7_goes_115 rfl ⟨by decide, rfl, rfl⟩ (by omega) (by omega) rfl ?_
            refine g_goto (q := 0) (t := 121) dX7_goes_116 (by decide) ?_
            refine g_iload_n (i := 1) (q := 122) dX7_goes_121 rfl rfl rfl ?_
            refine g_fnV (as := [zI (S.2.1 62 0), zI n]) (q := 125) (u' := 0) dX7_goes_122 rfl ck_X7_172 rfl rfl rfl (Nat.le_of_ble_eq_true rfl) (by decide) rfl (by decide) (t_knownBy hh0 t3 (t6 _ hh0.1 hh0.2)) rfl ?_
            refine g_istore (q := 127) dX7_goes_125 rfl (by decide) ?_
            exact kC g1 g2 _ _ _ (.inl ⟨rfl, er⟩)
          · have er : y_rd S w h i = S.2.1 62 ((i : Int) - 1) := by unfold y_rd; rw [if_neg gd]
            have e : y_nx S n w h i = y_kb S (S.2.1 62 ((i : Int) - 1)) n := by unfold y_nx; rw [if_neg gh, er]
            rw [e] at kC
            refine g_aload_n (i := 0) (q := 7) dX7_goes_6 rfl rfl rfl ?_
            refine g_getr (q := 10) dX7_goes_7 rfl fk_X7_77 rfl rfl ?_
            refine g_aload_n (i := 0) (q := 11) dX7_goes_10 rfl rfl rfl ?_
            refine g_getv (q := 14) (z := S.1 9) dX7_goes_11 rfl fk_X7_176 rfl rfl rfl ?_
            refine g_iconst (q := 15) dX7_goes_14 rfl ⟨by decide, by decide⟩ ?_
            refine g_isub (q := 16) dX7_goes_15 rfl (by constructor <;> omega) ?_
            refine g_ildv (q := 17) (z := S.2.1 62 ((i : Int) - 1)) dX7_goes_16 rfl ⟨by decide, rfl, rfl⟩ (by omega) (by omega) (by rw [t1]) ?_
            refine g_istore (q := 19) dX7_goes_17 rfl (by decide) ?_
            refine g_aload_n (i := 0) (q := 20) dX7_goes_19 rfl rfl rfl ?_
            refine g_getr (q := 23) dX7_goes_20 rfl fk_X7_17 rfl rfl ?_
            refine g_iload_n (i := 1) (q := 24) dX7_goes_23 rfl rfl rfl ?_
            refine g_ildv (q := 25) (z := S.2.1 42 n) dX7_goes_24 rfl ⟨by decide, rfl, rfl⟩ (by omega) (by omega) rfl ?_
            refine g_iload (q := 27) dX7_goes_25 rfl rfl ?_
            refine g_icmp_ne (t := 32) (q := 30) dX7_goes_27 (by decide) rfl (fun h27 => ?_) (fun h27 => (False.elim (by omega)))
            refine g_aload_n (i := 0) (q := 33) dX7_goes_32 rfl rfl rfl ?_
            refine g_getr (q := 36) dX7_goes_33 rfl fk_X7_13 rfl rfl ?_
            refine g_iload (q := 38) dX7_goes_36 rfl rfl ?_
            refine g_zldv (q := 39) (z := S.2.1 41 (S.2.1 62 ((i : Int) - 1))) dX7_goes_38 rfl ⟨by decide, rfl, rfl⟩ (by omega) (by omega) rfl ?_
            refine g_if_eq (t := 44) (q := 42) dX7_goes_39 (by decide) rfl (fun h39 => ?_) (fun h39 => (False.elim (by omega)))
            refine g_iload_n (i := 2) (q := 45) dX7_goes_44 rfl rfl rfl ?_
            refine g_if_eq (t := 66) (q := 48) dX7_goes_45 (by decide) rfl (fun h45 => ?_) (fun h45 => ?_)
            · refine g_iconst (q := 67) dX7_goes_66 rfl ⟨by decide, by decide⟩ ?_
              refine g_istore (q := 69) dX7_goes_67 rfl (by decide) ?_
              refine g_iload_n (i := 2) (q := 70) dX7_goes_69 rfl rfl rfl ?_
              refine g_iconst (q := 71) dX7_goes_70 rfl ⟨by decide, by decide⟩ ?_
              refine g_icmp_ne (t := 92) (q := 74) dX7_goes_71 (by decide) rfl (fun h71 => ?_) (fun h71 => ?_)
              · refine g_iconst (q := 93) dX7_goes_92 rfl ⟨by decide, by decide⟩ ?_
                refine g_istore (q := 95) dX7_goes_93 rfl (by decide) ?_
                refine g_iload (q := 97) dX7_goes_95 rfl rfl ?_
                refine g_if_eq (t := 104) (q := 100) dX7_goes_97 (by decide) rfl (fun h97 => ?_) (fun h97 => (False.elim (by omega)))
                refine g_aload_n (i := 0) (q := 105) dX7_goes_104 rfl rfl rfl ?_
                refine g_iload (q := 107) dX7_goes_105 rfl rfl ?_
                refine g_if_eq (t := 119) (q := 110) dX7_goes_107 (by decide) rfl (fun h107 => ?_) (fun h107 => (False.elim (by omega)))
                refine g_iload (q := 121) dX7_goes_119 rfl rfl ?_
                refine g_iload_n (i := 1) (q := 122) dX7_goes_121 rfl rfl rfl ?_
                refine g_fnV (as := [zI (S.2.1 62 ((i : Int) - 1)), zI n]) (q := 125) (u' := 0) dX7_goes_122 rfl ck_X7_172 rfl rfl rfl (Nat.le_of_ble_eq_true rfl) (by decide) rfl (by decide) (t_knownBy hh t3 (t6 _ hh.1 hh.2)) rfl ?_
                refine g_istore (q := 127) dX7_goes_125 rfl (by decide) ?_
                exact kC g1 g2 _ _ _ (.inr ⟨rfl, er⟩)
              · refine g_aload_n (i := 0) (q := 75) dX7_goes_74 rfl rfl rfl ?_
                refine g_getv (q := 78) (z := S.1 9) dX7_goes_75 rfl fk_X7_176 rfl rfl rfl ?_
                refine g_iconst (q := 79) dX7_goes_78 rfl ⟨by decide, by decide⟩ ?_
                refine g_icmp_ne (t := 92) (q := 82) dX7_goes_79 (by decide) rfl (fun h79 => ?_) (fun h79 => ?_)
                · refine g_iconst (q := 93) dX7_goes_92 rfl ⟨by decide, by decide⟩ ?_
                  refine g_istore (q := 95) dX7_goes_93 rfl (by decide) ?_
                  refine g_iload (q := 97) dX7_goes_95 rfl rfl ?_
                  refine g_if_eq (t := 104) (q := 100) dX7_goes_97 (by decide) rfl (fun h97 => ?_) (fun h97 => (False.elim (by omega)))
                  refine g_aload_n (i := 0) (q := 105) dX7_goes_104 rfl rfl rfl ?_
                  refine g_iload (q := 107) dX7_goes_105 rfl rfl ?_
                  refine g_if_eq (t := 119) (q := 110) dX7_goes_107 (by decide) rfl (fun h107 => ?_) (fun h107 => (False.elim (by omega)))
                  refine g_iload (q := 121) dX7_goes_119 rfl rfl ?_
                  refine g_iload_n (i := 1) (q := 122) dX7_goes_121 rfl rfl rfl ?_
                  refine g_fnV (as := [zI (S.2.1 62 ((i : Int) - 1)), zI n]) (q := 125) (u' := 0) dX7_goes_122 rfl ck_X7_172 rfl rfl rfl (Nat.le_of_ble_eq_true rfl) (by decide) rfl (by decide) (t_knownBy hh t3 (t6 _ hh.1 hh.2)) rfl ?_
                  refine g_istore (q := 127) dX7_goes_125 rfl (by decide) ?_
                  exact kC g1 g2 _ _ _ (.inr ⟨rfl, er⟩)
                · refine g_iload_n (i := 3) (q := 83) dX7_goes_82 rfl rfl rfl ?_
                  refine g_iload (q := 85) dX7_goes_83 rfl rfl ?_
                  refine g_icmp_ne (t := 92) (q := 88) dX7_goes_85 (by decide) rfl (fun h85 => ?_) (fun h85 => ?_)
                  · refine g_iconst (q := 93) dX7_goes_92 rfl ⟨by decide, by decide⟩ ?_
                    refine g_istore (q := 95) dX7_goes_93 rfl (by decide) ?_
                    refine g_iload (q := 97) dX7_goes_95 rfl rfl ?_
                    refine g_if_eq (t := 104) (q := 100) dX7_goes_97 (by decide) rfl (fun h97 => ?_) (fun h97 => (False.elim (by omega)))
                    refine g_aload_n (i := 0) (q := 105) dX7_goes_104 rfl rfl rfl ?_
                    refine g_iload (q := 107) dX7_goes_105 rfl rfl ?_
                    refine g_if_eq (t := 119) (q := 110) dX7_goes_107 (by decide) rfl (fun h107 => ?_) (fun h107 => (False.elim (by omega)))
                    refine g_iload (q := 121) dX7_goes_119 rfl rfl ?_
                    refine g_iload_n (i := 1) (q := 122) dX7_goes_121 rfl rfl rfl ?_
                    refine g_fnV (as := [zI (S.2.1 62 ((i : Int) - 1)), zI n]) (q := 125) (u' := 0) dX7_goes_122 rfl ck_X7_172 rfl rfl rfl (Nat.le_of_ble_eq_true rfl) (by decide) rfl (by decide) (t_knownBy hh t3 (t6 _ hh.1 hh.2)) rfl ?_
                    refine g_istore (q := 127) dX7_goes_125 rfl (by decide) ?_
                    exact kC g1 g2 _ _ _ (.inr ⟨rfl, er⟩)
                  · exact absurd ⟨by omega, by omega, by omega⟩ gd
            · refine g_aload_n (i := 0) (q := 49) dX7_goes_48 rfl rfl rfl ?_
              refine g_getv (q := 52) (z := S.1 9) dX7_goes_49 rfl fk_X7_176 rfl rfl rfl ?_
              refine g_iconst (q := 53) dX7_goes_52 rfl ⟨by decide, by decide⟩ ?_
              refine g_icmp_ne (t := 66) (q := 56) dX7_goes_53 (by decide) rfl (fun h53 => ?_) (fun h53 => ?_)
              · refine g_iconst (q := 67) dX7_goes_66 rfl ⟨by decide, by decide⟩ ?_
                refine g_istore (q := 69) dX7_goes_67 rfl (by decide) ?_
                refine g_iload_n (i := 2) (q := 70) dX7_goes_69 rfl rfl rfl ?_
                refine g_iconst (q := 71) dX7_goes_70 rfl ⟨by decide, by decide⟩ ?_
                refine g_icmp_ne (t := 92) (q := 74) dX7_goes_71 (by decide) rfl (fun h71 => ?_) (fun h71 => ?_)
                · refine g_iconst (q := 93) dX7_goes_92 rfl ⟨by decide, by decide⟩ ?_
                  refine g_istore (q := 95) dX7_goes_93 rfl (by decide) ?_
                  refine g_iload (q := 97) dX7_goes_95 rfl rfl ?_
                  refine g_if_eq (t := 104) (q := 100) dX7_goes_97 (by decide) rfl (fun h97 => ?_) (fun h97 => (False.elim (by omega)))
                  refine g_aload_n (i := 0) (q := 105) dX7_goes_104 rfl rfl rfl ?_
                  refine g_iload (q := 107) dX7_goes_105 rfl rfl ?_
                  refine g_if_eq (t := 119) (q := 110) dX7_goes_107 (by decide) rfl (fun h107 => ?_) (fun h107 => (False.elim (by omega)))
                  refine g_iload (q := 121) dX7_goes_119 rfl rfl ?_
                  refine g_iload_n (i := 1) (q := 122) dX7_goes_121 rfl rfl rfl ?_
                  refine g_fnV (as := [zI (S.2.1 62 ((i : Int) - 1)), zI n]) (q := 125) (u' := 0) dX7_goes_122 rfl ck_X7_172 rfl rfl rfl (Nat.le_of_ble_eq_true rfl) (by decide) rfl (by decide) (t_knownBy hh t3 (t6 _ hh.1 hh.2)) rfl ?_
                  refine g_istore (q := 127) dX7_goes_125 rfl (by decide) ?_
                  exact kC g1 g2 _ _ _ (.inr ⟨rfl, er⟩)
                · refine g_aload_n (i := 0) (q := 75) dX7_goes_74 rfl rfl rfl ?_
                  refine g_getv (q := 78) (z := S.1 9) dX7_goes_75 rfl fk_X7_176 rfl rfl rfl ?_
                  refine g_iconst (q := 79) dX7_goes_78 rfl ⟨by decide, by decide⟩ ?_
                  refine g_icmp_ne (t := 92) (q := 82) dX7_goes_79 (by decide) rfl (fun h79 => ?_) (fun h79 => ?_)
                  · refine g_iconst (q := 93) dX7_goes_92 rfl ⟨by decide, by decide⟩ ?_
                    refine g_istore (q := 95) dX7_goes_93 rfl (by decide) ?_
                    refine g_iload (q := 97) dX7_goes_95 rfl rfl ?_
                    refine g_if_eq (t := 104) (q := 100) dX7_goes_97 (by decide) rfl (fun h97 => ?_) (fun h97 => (False.elim (by omega)))
                    refine g_aload_n (i := 0) (q := 105) dX7_goes_104 rfl rfl rfl ?_
                    refine g_iload (q := 107) dX7_goes_105 rfl rfl ?_
                    refine g_if_eq (t := 119) (q := 110) dX7_goes_107 (by decide) rfl (fun h107 => ?_) (fun h107 => (False.elim (by omega)))
                    refine g_iload (q := 121) dX7_goes_119 rfl rfl ?_
                    refine g_iload_n (i := 1) (q := 122) dX7_goes_121 rfl rfl rfl ?_
                    refine g_fnV (as := [zI (S.2.1 62 ((i : Int) - 1)), zI n]) (q := 125) (u' := 0) dX7_goes_122 rfl ck_X7_172 rfl rfl rfl (Nat.le_of_ble_eq_true rfl) (by decide) rfl (by decide) (t_knownBy hh t3 (t6 _ hh.1 hh.2)) rfl ?_
                    refine g_istore (q := 127) dX7_goes_125 rfl (by decide) ?_
                    exact kC g1 g2 _ _ _ (.inr ⟨rfl, er⟩)
                  · refine g_iload_n (i := 3) (q := 83) dX7_goes_82 rfl rfl rfl ?_
                    refine g_iload (q := 85) dX7_goes_83 rfl rfl ?_
                    refine g_icmp_ne (t := 92) (q := 88) dX7_goes_85 (by decide) rfl (fun h85 => ?_) (fun h85 => ?_)
                    · refine g_iconst (q := 93) dX7_goes_92 rfl ⟨by decide, by decide⟩ ?_
                      refine g_istore (q := 95) dX7_goes_93 rfl (by decide) ?_
                      refine g_iload (q := 97) dX7_goes_95 rfl rfl ?_
                      refine g_if_eq (t := 104) (q := 100) dX7_goes_97 (by decide) rfl (fun h97 => ?_) (fun h97 => (False.elim (by omega)))
                      refine g_aload_n (i := 0) (q := 105) dX7_goes_104 rfl rfl rfl ?_
                      refine g_iload (q := 107) dX7_goes_105 rfl rfl ?_
                      refine g_if_eq (t := 119) (q := 110) dX7_goes_107 (by decide) rfl (fun h107 => ?_) (fun h107 => (False.elim (by omega)))
                      refine g_iload (q := 121) dX7_goes_119 rfl rfl ?_
                      refine g_iload_n (i := 1) (q := 122) dX7_goes_121 rfl rfl rfl ?_
                      refine g_fnV (as := [zI (S.2.1 62 ((i : Int) - 1)), zI n]) (q := 125) (u' := 0) dX7_goes_122 rfl ck_X7_172 rfl rfl rfl (Nat.le_of_ble_eq_true rfl) (by decide) rfl (by decide) (t_knownBy hh t3 (t6 _ hh.1 hh.2)) rfl ?_
                      refine g_istore (q := 127) dX7_goes_125 rfl (by decide) ?_
                      exact kC g1 g2 _ _ _ (.inr ⟨rfl, er⟩)
                    · exact absurd ⟨by omega, by omega, by omega⟩ gd
              · refine g_iload_n (i := 3) (q := 57) dX7_goes_56 rfl rfl rfl ?_
                refine g_iload (q := 59) dX7_goes_57 rfl rfl ?_
                refine g_icmp_eq (t := 66) (q := 62) dX7_goes_59 (by decide) rfl (fun h59 => ?_) (fun h59 => ?_)
                · refine g_iconst (q := 67) dX7_goes_66 rfl ⟨by decide, by decide⟩ ?_
                  refine g_istore (q := 69) dX7_goes_67 rfl (by decide) ?_
                  refine g_iload_n (i := 2) (q := 70) dX7_goes_69 rfl rfl rfl ?_
                  refine g_iconst (q := 71) dX7_goes_70 rfl ⟨by decide, by decide⟩ ?_
                  refine g_icmp_ne (t := 92) (q := 74) dX7_goes_71 (by decide) rfl (fun h71 => ?_) (fun h71 => ?_)
                  · refine g_iconst (q := 93) dX7_goes_92 rfl ⟨by decide, by decide⟩ ?_
                    refine g_istore (q := 95) dX7_goes_93 rfl (by decide) ?_
                    refine g_iload (q := 97) dX7_goes_95 rfl rfl ?_
                    refine g_if_eq (t := 104) (q := 100) dX7_goes_97 (by decide) rfl (fun h97 => ?_) (fun h97 => (False.elim (by omega)))
                    refine g_aload_n (i := 0) (q := 105) dX7_goes_104 rfl rfl rfl ?_
                    refine g_iload (q := 107) dX7_goes_105 rfl rfl ?_
                    refine g_if_eq (t := 119) (q := 110) dX7_goes_107 (by decide) rfl (fun h107 => ?_) (fun h107 => (False.elim (by omega)))
                    refine g_iload (q := 121) dX7_goes_119 rfl rfl ?_
                    refine g_iload_n (i := 1) (q := 122) dX7_goes_121 rfl rfl rfl ?_
                    refine g_fnV (as := [zI (S.2.1 62 ((i : Int) - 1)), zI n]) (q := 125) (u' := 0) dX7_goes_122 rfl ck_X7_172 rfl rfl rfl (Nat.le_of_ble_eq_true rfl) (by decide) rfl (by decide) (t_knownBy hh t3 (t6 _ hh.1 hh.2)) rfl ?_
                    refine g_istore (q := 127) dX7_goes_125 rfl (by decide) ?_
                    exact kC g1 g2 _ _ _ (.inr ⟨rfl, er⟩)
                  · refine g_aload_n (i := 0) (q := 75) dX7_goes_74 rfl rfl rfl ?_
                    refine g_getv (q := 78) (z := S.1 9) dX7_goes_75 rfl fk_X7_176 rfl rfl rfl ?_
                    refine g_iconst (q := 79) dX7_goes_78 rfl ⟨by decide, by decide⟩ ?_
                    refine g_icmp_ne (t := 92) (q := 82) dX7_goes_79 (by decide) rfl (fun h79 => ?_) (fun h79 => ?_)
                    · refine g_iconst (q := 93) dX7_goes_92 rfl ⟨by decide, by decide⟩ ?_
                      refine g_istore (q := 95) dX7_goes_93 rfl (by decide) ?_
                      refine g_iload (q := 97) dX7_goes_95 rfl rfl ?_
                      refine g_if_eq (t := 104) (q := 100) dX7_goes_97 (by decide) rfl (fun h97 => ?_) (fun h97 => (False.elim (by omega)))
                      refine g_aload_n (i := 0) (q := 105) dX7_goes_104 rfl rfl rfl ?_
                      refine g_iload (q := 107) dX7_goes_105 rfl rfl ?_
                      refine g_if_eq (t := 119) (q := 110) dX7_goes_107 (by decide) rfl (fun h107 => ?_) (fun h107 => (False.elim (by omega)))
                      refine g_iload (q := 121) dX7_goes_119 rfl rfl ?_
                      refine g_iload_n (i := 1) (q := 122) dX7_goes_121 rfl rfl rfl ?_
                      refine g_fnV (as := [zI (S.2.1 62 ((i : Int) - 1)), zI n]) (q := 125) (u' := 0) dX7_goes_122 rfl ck_X7_172 rfl rfl rfl (Nat.le_of_ble_eq_true rfl) (by decide) rfl (by decide) (t_knownBy hh t3 (t6 _ hh.1 hh.2)) rfl ?_
                      refine g_istore (q := 127) dX7_goes_125 rfl (by decide) ?_
                      exact kC g1 g2 _ _ _ (.inr ⟨rfl, er⟩)
                    · refine g_iload_n (i := 3) (q := 83) dX7_goes_82 rfl rfl rfl ?_
                      refine g_iload (q := 85) dX7_goes_83 rfl rfl ?_
                      refine g_icmp_ne (t := 92) (q := 88) dX7_goes_85 (by decide) rfl (fun h85 => ?_) (fun h85 => ?_)
                      · refine g_iconst (q := 93) dX7_goes_92 rfl ⟨by decide, by decide⟩ ?_
                        refine g_istore (q := 95) dX7_goes_93 rfl (by decide) ?_
                        refine g_iload (q := 97) dX7_goes_95 rfl rfl ?_
                        refine g_if_eq (t := 104) (q := 100) dX7_goes_97 (by decide) rfl (fun h97 => ?_) (fun h97 => (False.elim (by omega)))
                        refine g_aload_n (i := 0) (q := 105) dX7_goes_104 rfl rfl rfl ?_
                        refine g_iload (q := 107) dX7_goes_105 rfl rfl ?_
                        refine g_if_eq (t := 119) (q := 110) dX7_goes_107 (by decide) rfl (fun h107 => ?_) (fun h107 => (False.elim (by omega)))
                        refine g_iload (q := 121) dX7_goes_119 rfl rfl ?_
                        refine g_iload_n (i := 1) (q := 122) dX7_goes_121 rfl rfl rfl ?_
                        refine g_fnV (as := [zI (S.2.1 62 ((i : Int) - 1)), zI n]) (q := 125) (u' := 0) dX7_goes_122 rfl ck_X7_172 rfl rfl rfl (Nat.le_of_ble_eq_true rfl) (by decide) rfl (by decide) (t_knownBy hh t3 (t6 _ hh.1 hh.2)) rfl ?_
                        refine g_istore (q := 127) dX7_goes_125 rfl (by decide) ?_
                        exact kC g1 g2 _ _ _ (.inr ⟨rfl, er⟩)
                      · exact absurd ⟨by omega, by omega, by omega⟩ gd
                · exact absurd ⟨by omega, by omega, by omega⟩ gh
      · rw [if_neg g1, if_pos g2] at hQ
        refine g_aload_n (i := 0) (q := 7) dX7_goes_6 rfl rfl rfl ?_
        refine g_getr (q := 10) dX7_goes_7 rfl fk_X7_77 rfl rfl ?_
        refine g_aload_n (i := 0) (q := 11) dX7_goes_10 rfl rfl rfl ?_
        refine g_getv (q := 14) (z := S.1 9) dX7_goes_11 rfl fk_X7_176 rfl rfl rfl ?_
        refine g_iconst (q := 15) dX7_goes_14 rfl ⟨by decide, by decide⟩ ?_
        refine g_isub (q := 16) dX7_goes_15 rfl (by constructor <;> omega) ?_
        refine g_ildv (q := 17) (z := S.2.1 62 ((i : Int) - 1)) dX7_goes_16 rfl ⟨by decide, rfl, rfl⟩ (by omega) (by omega) (by rw [t1]) ?_
        refine g_istore (q := 19) dX7_goes_17 rfl (by decide) ?_
        refine g_aload_n (i := 0) (q := 20) dX7_goes_19 rfl rfl rfl ?_
        refine g_getr (q := 23) dX7_goes_20 rfl fk_X7_17 rfl rfl ?_
        refine g_iload_n (i := 1) (q := 24) dX7_goes_23 rfl rfl rfl ?_
        refine g_ildv (q := 25) (z := S.2.1 42 n) dX7_goes_24 rfl ⟨by decide, rfl, rfl⟩ (by omega) (by omega) rfl ?_
        refine g_iload (q := 27) dX7_goes_25 rfl rfl ?_
        refine g_icmp_ne (t := 32) (q := 30) dX7_goes_27 (by decide) rfl (fun h27 => ?_) (fun h27 => (False.elim (by omega)))
        refine g_aload_n (i := 0) (q := 33) dX7_goes_32 rfl rfl rfl ?_
        refine g_getr (q := 36) dX7_goes_33 rfl fk_X7_13 rfl rfl ?_
        refine g_iload (q := 38) dX7_goes_36 rfl rfl ?_
        refine g_zldv (q := 39) (z := S.2.1 41 (S.2.1 62 ((i : Int) - 1))) dX7_goes_38 rfl ⟨by decide, rfl, rfl⟩ (by omega) (by omega) rfl ?_
        refine g_if_eq (t := 44) (q := 42) dX7_goes_39 (by decide) rfl (fun h39 => (False.elim (by omega))) (fun h39 => ?_)
        refine g_iconst (q := 43) dX7_goes_42 rfl ⟨by decide, by decide⟩ ?_
        exact g_ret dX7_goes_43 rfl (by decide) hQ
theorem t_goes {S : zS} {n w h : Int} (T : yT S n h 1) : z_Fn mX7_goes [zR 7, zI n, zI w] S (some (zI (y_gs S n w h 1 6).2)) (y_gs S n w h 1 6).1 := by
  obtain ⟨t1, t2, t3, t4, t5, t6⟩ := id T
  refine z_enter (by decide +kernel) rfl (z_n1 trivial (z_n1 trivial (z_n1 trivial z_n0))) (Nat.le_of_ble_eq_true rfl) ?_
  refine g_aload_n (i := 0) (q := 1) dX7_goes_0 rfl rfl rfl ?_
  refine g_iload_n (i := 1) (q := 2) dX7_goes_1 rfl rfl rfl ?_
  refine g_fnV (as := [zI n]) (q := 5) (u' := 0) dX7_goes_2 rfl ck_X7_114 rfl rfl rfl (Nat.le_of_ble_eq_true rfl) (by decide) rfl (by decide) (t_holderOf t3) rfl ?_
  refine g_top (z := h) t5 ?_
  refine g_istore_n (i := 3) (q := 6) dX7_goes_5 rfl rfl (by decide) ?_
  exact l_X7_goes 6 1 S (by omega) T ⟨rfl, rfl⟩ _ _ _ _ _
/-- a call: the hops, how it ends -/
def y_hb (S : zS) (f : Int) : zS := y_ht (z_sS S 9 0) f
def y_tc (S : zS) (f n w : Int) : zS × Int :=
  if S.2.1 40 (n / 10) = -1 then (y_hb S f, 1)
  else if S.2.1 42 n = -1 then (if S.2.1 40 (n / 10) = f then (y_hb S f, 2) else (y_ht (y_hb S f) (S.2.1 40 (n / 10)), 2))
  else y_gs (y_hb S f) n w (S.2.1 40 (n / 10)) 1 6
theorem y_hb_ne {S : zS} {f : Int} {k : Nat} {j : Int} (h : k ≠ 62) : (y_hb S f).2.1 k j = S.2.1 k j := by
  unfold y_hb
  rw [y_ht_ne h, za_sS]
theorem y_hb_62 {S : zS} {f : Int} : (y_hb S f).2.1 62 0 = f := by
  unfold y_hb
  rw [y_ht_62]
  exact if_pos rfl
/-- what a call needs of the reference's rows -/
def yC (S : zS) : Prop := (∀ f : Int, 0 ≤ f → f < 6 → 0 ≤ S.2.1 58 f ∧ S.2.1 58 f ≤ 4000) ∧ (∀ n : Int, ∀ k : Nat, 0 ≤ y_last S n k ∧ y_last S n k ≤ 6) ∧ (∀ f : Int, 0 ≤ f → f < 6 → S.2.1 41 f = 0 ∨ S.2.1 41 f = 1) ∧ (∀ b : Int, 0 ≤ b → b < 20 → -1 ≤ S.2.1 40 b ∧ S.2.1 40 b < 6)
theorem yT_hb {S : zS} {f n : Int} (C : yC S) (hf : 0 ≤ f ∧ f < 6) (hn : 0 ≤ n ∧ n < 200) (hh : ¬ S.2.1 40 (n / 10) = -1) : yT (y_hb S f) n (S.2.1 40 (n / 10)) 1 := by
  have h40 := C.2.2.2 (n / 10) (by omega) (by omega)
  refine ⟨rfl, by omega, hn, by omega, y_hb_ne (by omega), fun g a b => by rw [y_hb_ne (by omega)]; exact C.1 g a b, fun k => ?_, fun j a b => ?_, fun j l a b => ?_, fun g a b => by rw [y_hb_ne (by omega)]; exact C.2.2.1 g a b⟩
  · rw [y_last_cong (fun j => y_hb_ne (by omega)) (fun j => y_hb_ne (by omega))]
    exact C.2.1 n k
  · have e : j = 0 := by omega
    subst e
    rw [y_hb_62]
    exact hf
  · omega
theorem t_callsTo {S : zS} {f n w : Int} (C : yC S) (hf : 0 ≤ f ∧ f < 6) (hn : 0 ≤ n ∧ n < 200) : z_Fn mX7_callsTo [zR 7, zI f, zI n, zI w] S (some (zI (y_tc S f n w).2)) (y_tc S f n w).1 := by
  refine z_enter (by decide +kernel) rfl (z_n1 trivial (z_n1 trivial (z_n1 trivial (z_n1 trivial z_n0)))) (Nat.le_of_ble_eq_true rfl) ?_
  by_cases e1 : S.2.1 40 (n / 10) = -1
  · have e : y_tc S f n w = (y_hb S f, 1) := by unfold y_tc; rw [if_pos e1]
    rw [e]
    refine g_aload_n (i := 0) (q := 1) dX7_callsTo_0 rfl rfl rfl ?_
    refine g_iconst (q := 2) dX7_callsTo_1 rfl ⟨by decide, by decide⟩ ?_
    refine g_put (q := 5) dX7_callsTo_2 rfl fk_X7_176 fp_7_26 rfl rfl ?_
    refine g_aload_n (i := 0) (q := 6) dX7_callsTo_5 rfl rfl rfl ?_
    refine g_iload_n (i := 1) (q := 7) dX7_callsTo_6 rfl rfl rfl ?_
    refine g_fnV (as := [zI f]) (q := 10) (u' := 0) dX7_callsTo_7 rfl ck_X7_182 rfl rfl rfl (Nat.le_of_ble_eq_true rfl) (by decide) rfl (by decide) (t_hopsTo (S := z_sS S 9 0) (show (0 : Int) ≤ 0 ∧ (0 : Int) < 8 by omega)) rfl ?_
    refine g_aload_n (i := 0) (q := 11) dX7_callsTo_10 rfl rfl rfl ?_
    refine g_iload_n (i := 2) (q := 12) dX7_callsTo_11 rfl rfl rfl ?_
    refine g_fnV (as := [zI n]) (q := 15) (u' := 0) dX7_callsTo_12 rfl ck_X7_114 rfl rfl rfl (Nat.le_of_ble_eq_true rfl) (by decide) rfl (by decide) (t_holderOf hn) rfl ?_
    refine g_top (z := S.2.1 40 (n / 10)) (y_hb_ne (by omega)) ?_
    refine g_iconst (q := 16) dX7_callsTo_15 rfl ⟨by decide, by decide⟩ ?_
    refine g_icmp_ne (t := 21) (q := 19) dX7_callsTo_16 (by decide) rfl (fun h16 => (False.elim (by omega))) (fun h16 => ?_)
    refine g_iconst (q := 20) dX7_callsTo_19 rfl ⟨by decide, by decide⟩ ?_
    exact g_ret dX7_callsTo_20 rfl (by decide) (by first | exact ⟨rfl, rfl⟩ | (exfalso; omega))
  · have T := yT_hb (f := f) C hf hn e1
    by_cases e2 : S.2.1 42 n = -1
    · by_cases e3 : S.2.1 40 (n / 10) = f
      · have e : y_tc S f n w = (y_hb S f, 2) := by unfold y_tc; rw [if_neg e1, if_pos e2, if_pos e3]
        rw [e]
        refine g_aload_n (i := 0) (q := 1) dX7_callsTo_0 rfl rfl rfl ?_
        refine g_iconst (q := 2) dX7_callsTo_1 rfl ⟨by decide, by decide⟩ ?_
        refine g_put (q := 5) dX7_callsTo_2 rfl fk_X7_176 fp_7_26 rfl rfl ?_
        refine g_aload_n (i := 0) (q := 6) dX7_callsTo_5 rfl rfl rfl ?_
        refine g_iload_n (i := 1) (q := 7) dX7_callsTo_6 rfl rfl rfl ?_
        refine g_fnV (as := [zI f]) (q := 10) (u' := 0) dX7_callsTo_7 rfl ck_X7_182 rfl rfl rfl (Nat.le_of_ble_eq_true rfl) (by decide) rfl (by decide) (t_hopsTo (S := z_sS S 9 0) (show (0 : Int) ≤ 0 ∧ (0 : Int) < 8 by omega)) rfl ?_
        refine g_aload_n (i := 0) (q := 11) dX7_callsTo_10 rfl rfl rfl ?_
        refine g_iload_n (i := 2) (q := 12) dX7_callsTo_11 rfl rfl rfl ?_
        refine g_fnV (as := [zI n]) (q := 15) (u' := 0) dX7_callsTo_12 rfl ck_X7_114 rfl rfl rfl (Nat.le_of_ble_eq_true rfl) (by decide) rfl (by decide) (t_holderOf hn) rfl ?_
        refine g_top (z := S.2.1 40 (n / 10)) (y_hb_ne (by omega)) ?_
        refine g_iconst (q := 16) dX7_callsTo_15 rfl ⟨by decide, by decide⟩ ?_
        refine g_icmp_ne (t := 21) (q := 19) dX7_callsTo_16 (by decide) rfl (fun h16 => ?_) (fun h16 => (False.elim (by omega)))
        refine g_aload_n (i := 0) (q := 22) dX7_callsTo_21 rfl rfl rfl ?_
        refine g_getr (q := 25) dX7_callsTo_22 rfl fk_X7_17 rfl rfl ?_
        refine g_iload_n (i := 2) (q := 26) dX7_callsTo_25 rfl rfl rfl ?_
        refine g_ildv (q := 27) (z := S.2.1 42 n) dX7_callsTo_26 rfl ⟨by decide, rfl, rfl⟩ (by omega) (by omega) (y_hb_ne (by omega)) ?_
        refine g_iconst (q := 28) dX7_callsTo_27 rfl ⟨by decide, by decide⟩ ?_
        refine g_icmp_ne (t := 51) (q := 31) dX7_callsTo_28 (by decide) rfl (fun h28 => (False.elim (by omega))) (fun h28 => ?_)
        refine g_aload_n (i := 0) (q := 32) dX7_callsTo_31 rfl rfl rfl ?_
        refine g_iload_n (i := 2) (q := 33) dX7_callsTo_32 rfl rfl rfl ?_
        refine g_fnV (as := [zI n]) (q := 36) (u' := 0) dX7_callsTo_33 rfl ck_X7_114 rfl rfl rfl (Nat.le_of_ble_eq_true rfl) (by decide) rfl (by decide) (t_holderOf hn) rfl ?_
        refine g_top (z := S.2.1 40 (n / 10)) (y_hb_ne (by omega)) ?_
        refine g_iload_n (i := 1) (q := 37) dX7_callsTo_36 rfl rfl rfl ?_
        refine g_icmp_eq (t := 49) (q := 40) dX7_callsTo_37 (by decide) rfl (fun h37 => ?_) (fun h37 => (False.elim (by omega)))
        refine g_iconst (q := 50) dX7_callsTo_49 rfl ⟨by decide, by decide⟩ ?_
        exact g_ret dX7_callsTo_50 rfl (by decide) (by first | exact ⟨rfl, rfl⟩ | (exfalso; omega))
      · have e : y_tc S f n w = (y_ht (y_hb S f) (S.2.1 40 (n / 10)), 2) := by unfold y_tc; rw [if_neg e1, if_pos e2, if_neg e3]
        rw [e]
        refine g_aload_n (i := 0) (q := 1) dX7_callsTo_0 rfl rfl rfl ?_
        refine g_iconst (q := 2) dX7_callsTo_1 rfl ⟨by decide, by decide⟩ ?_
        refine g_put (q := 5) dX7_callsTo_2 rfl fk_X7_176 fp_7_26 rfl rfl ?_
        refine g_aload_n (i := 0) (q := 6) dX7_callsTo_5 rfl rfl rfl ?_
        refine g_iload_n (i := 1) (q := 7) dX7_callsTo_6 rfl rfl rfl ?_
        refine g_fnV (as := [zI f]) (q := 10) (u' := 0) dX7_callsTo_7 rfl ck_X7_182 rfl rfl rfl (Nat.le_of_ble_eq_true rfl) (by decide) rfl (by decide) (t_hopsTo (S := z_sS S 9 0) (show (0 : Int) ≤ 0 ∧ (0 : Int) < 8 by omega)) rfl ?_
        refine g_aload_n (i := 0) (q := 11) dX7_callsTo_10 rfl rfl rfl ?_
        refine g_iload_n (i := 2) (q := 12) dX7_callsTo_11 rfl rfl rfl ?_
        refine g_fnV (as := [zI n]) (q := 15) (u' := 0) dX7_callsTo_12 rfl ck_X7_114 rfl rfl rfl (Nat.le_of_ble_eq_true rfl) (by decide) rfl (by decide) (t_holderOf hn) rfl ?_
        refine g_top (z := S.2.1 40 (n / 10)) (y_hb_ne (by omega)) ?_
        refine g_iconst (q := 16) dX7_callsTo_15 rfl ⟨by decide, by decide⟩ ?_
        refine g_icmp_ne (t := 21) (q := 19) dX7_callsTo_16 (by decide) rfl (fun h16 => ?_) (fun h16 => (False.elim (by omega)))
        refine g_aload_n (i := 0) (q := 22) dX7_callsTo_21 rfl rfl rfl ?_
        refine g_getr (q := 25) dX7_callsTo_22 rfl fk_X7_17 rfl rfl ?_
        refine g_iload_n (i := 2) (q := 26) dX7_callsTo_25 rfl rfl rfl ?_
        refine g_ildv (q := 27) (z := S.2.1 42 n) dX7_callsTo_26 rfl ⟨by decide, rfl, rfl⟩ (by omega) (by omega) (y_hb_ne (by omega)) ?_
        refine g_iconst (q := 28) dX7_callsTo_27 rfl ⟨by decide, by decide⟩ ?_
        refine g_icmp_ne (t := 51) (q := 31) dX7_callsTo_28 (by decide) rfl (fun h28 => (False.elim (by omega))) (fun h28 => ?_)
        refine g_aload_n (i := 0) (q := 32) dX7_callsTo_31 rfl rfl rfl ?_
        refine g_iload_n (i := 2) (q := 33) dX7_callsTo_32 rfl rfl rfl ?_
        refine g_fnV (as := [zI n]) (q := 36) (u' := 0) dX7_callsTo_33 rfl ck_X7_114 rfl rfl rfl (Nat.le_of_ble_eq_true rfl) (by decide) rfl (by decide) (t_holderOf hn) rfl ?_
        refine g_top (z := S.2.1 40 (n / 10)) (y_hb_ne (by omega)) ?_
        refine g_iload_n (i := 1) (q := 37) dX7_callsTo_36 rfl rfl rfl ?_
        refine g_icmp_eq (t := 49) (q := 40) dX7_callsTo_37 (by decide) rfl (fun h37 => (False.elim (by omega))) (fun h37 => ?_)
        refine g_aload_n (i := 0) (q := 41) dX7_callsTo_40 rfl rfl rfl ?_
        refine g_aload_n (i := 0) (q := 42) dX7_callsTo_41 rfl rfl rfl ?_
        refine g_iload_n (i := 2) (q := 43) dX7_callsTo_42 rfl rfl rfl ?_
        refine g_fnV (as := [zI n]) (q := 46) (u' := 0) dX7_callsTo_43 rfl ck_X7_114 rfl rfl rfl (Nat.le_of_ble_eq_true rfl) (by decide) rfl (by decide) (t_holderOf hn) rfl ?_
        refine g_top (z := S.2.1 40 (n / 10)) (y_hb_ne (by omega)) ?_
        refine g_fnV (as := [zI (S.2.1 40 (n / 10))]) (q := 49) (u' := 0) dX7_callsTo_46 rfl ck_X7_182 rfl rfl rfl (Nat.le_of_ble_eq_true rfl) (by decide) rfl (by decide) (t_hopsTo (show (0 : Int) ≤ 1 ∧ (1 : Int) < 8 by omega)) rfl ?_
        refine g_iconst (q := 50) dX7_callsTo_49 rfl ⟨by decide, by decide⟩ ?_
        exact g_ret dX7_callsTo_50 rfl (by decide) (by first | exact ⟨rfl, rfl⟩ | (exfalso; omega))
    · have e : y_tc S f n w = y_gs (y_hb S f) n w (S.2.1 40 (n / 10)) 1 6 := by unfold y_tc; rw [if_neg e1, if_neg e2]
      rw [e]
      refine g_aload_n (i := 0) (q := 1) dX7_callsTo_0 rfl rfl rfl ?_
      refine g_iconst (q := 2) dX7_callsTo_1 rfl ⟨by decide, by decide⟩ ?_
      refine g_put (q := 5) dX7_callsTo_2 rfl fk_X7_176 fp_7_26 rfl rfl ?_
      refine g_aload_n (i := 0) (q := 6) dX7_callsTo_5 rfl rfl rfl ?_
      refine g_iload_n (i := 1) (q := 7) dX7_callsTo_6 rfl rfl rfl ?_
      refine g_fnV (as := [zI f]) (q := 10) (u' := 0) dX7_callsTo_7 rfl ck_X7_182 rfl rfl rfl (Nat.le_of_ble_eq_true rfl) (by decide) rfl (by decide) (t_hopsTo (S := z_sS S 9 0) (show (0 : Int) ≤ 0 ∧ (0 : Int) < 8 by omega)) rfl ?_
      refine g_aload_n (i := 0) (q := 11) dX7_callsTo_10 rfl rfl rfl ?_
      refine g_iload_n (i := 2) (q := 12) dX7_callsTo_11 rfl rfl rfl ?_
      refine g_fnV (as := [zI n]) (q := 15) (u' := 0) dX7_callsTo_12 rfl ck_X7_114 rfl rfl rfl (Nat.le_of_ble_eq_true rfl) (by decide) rfl (by decide) (t_holderOf hn) rfl ?_
      refine g_top (z := S.2.1 40 (n / 10)) (y_hb_ne (by omega)) ?_
      refine g_iconst (q := 16) dX7_callsTo_15 rfl ⟨by decide, by decide⟩ ?_
      refine g_icmp_ne (t := 21) (q := 19) dX7_callsTo_16 (by decide) rfl (fun h16 => ?_) (fun h16 => (False.elim (by omega)))
      refine g_aload_n (i := 0) (q := 22) dX7_callsTo_21 rfl rfl rfl ?_
      refine g_getr (q := 25) dX7_callsTo_22 rfl fk_X7_17 rfl rfl ?_
      refine g_iload_n (i := 2) (q := 26) dX7_callsTo_25 rfl rfl rfl ?_
      refine g_ildv (q := 27) (z := S.2.1 42 n) dX7_callsTo_26 rfl ⟨by decide, rfl, rfl⟩ (by omega) (by omega) (y_hb_ne (by omega)) ?_
      refine g_iconst (q := 28) dX7_callsTo_27 rfl ⟨by decide, by decide⟩ ?_
      refine g_icmp_ne (t := 51) (q := 31) dX7_callsTo_28 (by decide) rfl (fun h28 => ?_) (fun h28 => (False.elim (by omega)))
      refine g_aload_n (i := 0) (q := 52) dX7_callsTo_51 rfl rfl rfl ?_
      refine g_iload_n (i := 2) (q := 53) dX7_callsTo_52 rfl rfl rfl ?_
      refine g_iload_n (i := 3) (q := 54) dX7_callsTo_53 rfl rfl rfl ?_
      refine g_fnV (as := [zI n, zI w]) (q := 57) (u' := 0) dX7_callsTo_54 rfl ck_X7_185 rfl rfl rfl (Nat.le_of_ble_eq_true rfl) (by decide) rfl (by decide) (t_goes T) rfl ?_
      exact g_ret dX7_callsTo_57 rfl (by decide) (by first | exact ⟨rfl, rfl⟩ | (exfalso; omega))
