/-! ===== a firm ends: blocks, numbers, changes ===== -/
def x_ah (S : zS) (n h sb hb : Int) : zS := if S.2.1 13 n = h then (if S.2.1 8 (n / 10) = h then (if sb = hb then S else x_chg S (S.1 0) n 6) else (if sb = h then S else x_chg S (S.1 0) n h)) else S
theorem s_X6_announceHeir {S : zS} {n h sb hb : Int} (hn : 0 ≤ n ∧ n < 200) (h0 : 0 ≤ S.1 2) (h6 : (x_ah S n h sb hb).1 2 ≤ 600) : z_Fn mX6_announceHeir [zR 0, zI n, zI h, zI sb, zI hb] S none (x_ah S n h sb hb) := by
  refine z_enter (by decide +kernel) rfl (z_n1 trivial (z_n1 trivial (z_n1 trivial (z_n1 trivial (z_n1 trivial z_n0))))) (Nat.le_of_ble_eq_true rfl) ?_
  refine g_aload_n (i := 0) (q := 1) dX6_announceHeir_0 rfl rfl rfl ?_
  refine g_getr (q := 4) dX6_announceHeir_1 rfl fk_X6_23 rfl rfl ?_
  refine g_getr (q := 7) dX6_announceHeir_4 rfl fk_X6_129 rfl rfl ?_
  refine g_iload_n (i := 1) (q := 8) dX6_announceHeir_7 rfl rfl rfl ?_
  refine g_ildv (q := 9) (z := S.2.1 13 n) dX6_announceHeir_8 rfl ⟨by decide, rfl, rfl⟩ (by omega) (by omega) rfl ?_
  refine g_iload_n (i := 2) (q := 10) dX6_announceHeir_9 rfl rfl rfl ?_
  refine g_icmp_eq (t := 14) (q := 13) dX6_announceHeir_10 (by decide) rfl (fun h10 => ?_) (fun h10 => ?_)
  · refine g_aload_n (i := 0) (q := 15) dX6_announceHeir_14 rfl rfl rfl ?_
    refine g_iload_n (i := 1) (q := 16) dX6_announceHeir_15 rfl rfl rfl ?_
    refine g_fnV (as := [zI n]) (q := 19) (u' := 0) dX6_announceHeir_16 rfl ck_X6_106 rfl rfl rfl (Nat.le_of_ble_eq_true rfl) (by decide) rfl (by decide) (s_X6_holderOf (by omega)) rfl ?_
    refine g_iload_n (i := 2) (q := 20) dX6_announceHeir_19 rfl rfl rfl ?_
    refine g_icmp_eq (t := 44) (q := 23) dX6_announceHeir_20 (by decide) rfl (fun h20 => ?_) (fun h20 => ?_)
    · refine g_iload_n (i := 3) (q := 45) dX6_announceHeir_44 rfl rfl rfl ?_
      refine g_iload (q := 47) dX6_announceHeir_45 rfl rfl ?_
      refine g_icmp_eq (t := 64) (q := 50) dX6_announceHeir_47 (by decide) rfl (fun h47 => ?_) (fun h47 => ?_)
      · exact g_retv dX6_announceHeir_64 rfl (by decide) (by unfold x_ah; (repeat (first | rw [if_pos (by omega)] | rw [if_neg (by omega)])); exact ⟨rfl, rfl⟩)
      · have h61 : S.1 2 < 600 := by (unfold x_ah at h6; (repeat (first | rw [if_pos (by omega)] at h6 | rw [if_neg (by omega)] at h6)); have h62 : S.1 2 + 1 ≤ 600 := h6; omega)
        refine g_aload_n (i := 0) (q := 51) dX6_announceHeir_50 rfl rfl rfl ?_
        refine g_getr (q := 54) dX6_announceHeir_51 rfl fk_X6_37 rfl rfl ?_
        refine g_aload_n (i := 0) (q := 55) dX6_announceHeir_54 rfl rfl rfl ?_
        refine g_getv (q := 58) (z := S.1 0) dX6_announceHeir_55 rfl fk_X6_55 rfl rfl rfl ?_
        refine g_iload_n (i := 1) (q := 59) dX6_announceHeir_58 rfl rfl rfl ?_
        refine g_bipush (q := 61) dX6_announceHeir_59 rfl ⟨by decide, by decide⟩ (by decide) ?_
        refine g_fnV (as := [zI (S.1 0), zI n, zI 6]) (q := 64) (u' := 0) dX6_announceHeir_61 rfl ck_X6_138 rfl rfl rfl (Nat.le_of_ble_eq_true rfl) (by decide) rfl (by decide) (s_X0_add (by omega) (by omega)) rfl ?_
        exact g_retv dX6_announceHeir_64 rfl (by decide) (by unfold x_ah; (repeat (first | rw [if_pos (by omega)] | rw [if_neg (by omega)])); exact ⟨rfl, rfl⟩)
    · refine g_iload_n (i := 3) (q := 24) dX6_announceHeir_23 rfl rfl rfl ?_
      refine g_iload_n (i := 2) (q := 25) dX6_announceHeir_24 rfl rfl rfl ?_
      refine g_icmp_eq (t := 64) (q := 28) dX6_announceHeir_25 (by decide) rfl (fun h25 => ?_) (fun h25 => ?_)
      · exact g_retv dX6_announceHeir_64 rfl (by decide) (by unfold x_ah; (repeat (first | rw [if_pos (by omega)] | rw [if_neg (by omega)])); exact ⟨rfl, rfl⟩)
      · have h61 : S.1 2 < 600 := by (unfold x_ah at h6; (repeat (first | rw [if_pos (by omega)] at h6 | rw [if_neg (by omega)] at h6)); have h62 : S.1 2 + 1 ≤ 600 := h6; omega)
        refine g_aload_n (i := 0) (q := 29) dX6_announceHeir_28 rfl rfl rfl ?_
        refine g_getr (q := 32) dX6_announceHeir_29 rfl fk_X6_37 rfl rfl ?_
        refine g_aload_n (i := 0) (q := 33) dX6_announceHeir_32 rfl rfl rfl ?_
        refine g_getv (q := 36) (z := S.1 0) dX6_announceHeir_33 rfl fk_X6_55 rfl rfl rfl ?_
        refine g_iload_n (i := 1) (q := 37) dX6_announceHeir_36 rfl rfl rfl ?_
        refine g_iload_n (i := 2) (q := 38) dX6_announceHeir_37 rfl rfl rfl ?_
        refine g_fnV (as := [zI (S.1 0), zI n, zI h]) (q := 41) (u' := 0) dX6_announceHeir_38 rfl ck_X6_138 rfl rfl rfl (Nat.le_of_ble_eq_true rfl) (by decide) rfl (by decide) (s_X0_add (by omega) (by omega)) rfl ?_
        refine g_goto (q := 0) (t := 64) dX6_announceHeir_41 (by decide) ?_
        exact g_retv dX6_announceHeir_64 rfl (by decide) (by unfold x_ah; (repeat (first | rw [if_pos (by omega)] | rw [if_neg (by omega)])); exact ⟨rfl, rfl⟩)
  · exact g_retv dX6_announceHeir_13 rfl (by decide) (by unfold x_ah; (repeat (first | rw [if_pos (by omega)] | rw [if_neg (by omega)])); exact ⟨rfl, rfl⟩)
theorem x_ah_mono {S : zS} {n h sb hb : Int} : S.1 2 ≤ (x_ah S n h sb hb).1 2 := by
  unfold x_ah
  split
  · split
    · split
      · exact Int.le_refl _
      · show S.1 2 ≤ S.1 2 + 1; omega
    · split
      · exact Int.le_refl _
      · show S.1 2 ≤ S.1 2 + 1; omega
  · exact Int.le_refl _
/-- one number of a block -/
def x_ib1 (S : zS) (n f h hb : Int) : zS := x_ah (if S.2.1 13 n = f then z_sA (z_sA S 13 n h) 18 n (-1) else S) n h (S.2.1 13 n) hb
theorem x_ib1_mono {S : zS} {n f h hb : Int} : S.1 2 ≤ (x_ib1 S n f h hb).1 2 := by
  unfold x_ib1
  refine Int.le_trans ?_ x_ah_mono
  split <;> exact Int.le_refl _
def x_ibl (S : zS) (f h hb : Int) : Nat → Nat → zS
  | _, 0 => S
  | i, k + 1 => x_ibl (x_ib1 S i f h hb) f h hb (i + 1) k
theorem x_ibl_mono {f h hb : Int} : ∀ (k i : Nat) (S : zS), S.1 2 ≤ (x_ibl S f h hb i k).1 2
  | 0, _, _ => Int.le_refl _
  | k + 1, i, S => Int.le_trans x_ib1_mono (x_ibl_mono k (i + 1) _)
def x_ibc (S : zS) (f h hb : Int) : Nat → Nat → Int
  | _, 0 => 0
  | i, k + 1 => (if S.2.1 13 i = f then 1 else 0) + x_ibc (x_ib1 S i f h hb) f h hb (i + 1) k
theorem x_ibc_rng {f h hb : Int} : ∀ (k i : Nat) (S : zS), 0 ≤ x_ibc S f h hb i k ∧ x_ibc S f h hb i k ≤ k
  | 0, _, _ => by simp [x_ibc]
  | k + 1, i, S => by
    have h1 := x_ibc_rng (f := f) (h := h) (hb := hb) k (i + 1) (x_ib1 S i f h hb)
    rw [x_ibc]
    split <;> omega
theorem l_X6_inheritBlock {Q : zQ} {b : Nat} {f h hb : Int} (hb20 : b < 20) : ∀ (k i : Nat) (S : zS) (cnt : Int), i + k = 10 * b + 10 → 10 * b ≤ i → 0 ≤ S.1 2 → (x_ibl S f h hb i k).1 2 ≤ 600 → 0 ≤ cnt ∧ cnt + k ≤ 10 → Q (.ok (some (zI (cnt + x_ibc S f h hb i k)))) (x_ibl S f h hb i k) →
    ∀ w, z_G mX6_inheritBlock (z_F mX6_inheritBlock Q) 0 34 [some (zR 0), some (zI b), some (zI f), some (zI h), some (zI hb), some (zI cnt), some (zI ((b : Int) * 10)), some (zI (i : Int)), w] [] S := by
  intro k
  induction k with
  | zero =>
    intro i S cnt hi hi2 h0 h6 hcnt hQ w
    rw [x_ibc, Int.add_zero] at hQ
    refine g_iload (q := 36) dX6_inheritBlock_34 rfl rfl ?_
    refine g_iload (q := 38) dX6_inheritBlock_36 rfl rfl ?_
    refine g_bipush (q := 40) dX6_inheritBlock_38 rfl ⟨by decide, by decide⟩ (by decide) ?_
    refine g_iadd (q := 41) dX6_inheritBlock_40 rfl (by constructor <;> omega) ?_
    refine g_icmp_ge (t := 104) (q := 44) dX6_inheritBlock_41 (by decide) rfl (fun h41 => ?_) (fun h41 => (False.elim (by omega)))
    refine g_iload (q := 106) dX6_inheritBlock_104 rfl rfl ?_
    exact g_ret dX6_inheritBlock_106 rfl (by decide) hQ
  | succ k ih =>
    intro i S cnt hi hi2 h0 h6 hcnt hQ w
    rw [x_ibc] at hQ
    rw [x_ibl] at hQ h6
    have hm : (x_ib1 S i f h hb).1 2 ≤ 600 := Int.le_trans (x_ibl_mono k (i + 1) _) h6
    have h01 : 0 ≤ (x_ib1 S i f h hb).1 2 := Int.le_trans h0 x_ib1_mono
    by_cases hs : S.2.1 13 i = f
    · have e : x_ib1 S i f h hb = x_ah (z_sA (z_sA S 13 i h) 18 i (-1)) i h (S.2.1 13 i) hb := by unfold x_ib1; rw [if_pos hs]
      rw [if_pos hs] at hQ
      refine g_iload (q := 36) dX6_inheritBlock_34 rfl rfl ?_
      refine g_iload (q := 38) dX6_inheritBlock_36 rfl rfl ?_
      refine g_bipush (q := 40) dX6_inheritBlock_38 rfl ⟨by decide, by decide⟩ (by decide) ?_
      refine g_iadd (q := 41) dX6_inheritBlock_40 rfl (by constructor <;> omega) ?_
      refine g_icmp_ge (t := 104) (q := 44) dX6_inheritBlock_41 (by decide) rfl (fun h41 => (False.elim (by omega))) (fun h41 => ?_)
      refine g_aload_n (i := 0) (q := 45) dX6_inheritBlock_44 rfl rfl rfl ?_
      refine g_getr (q := 48) dX6_inheritBlock_45 rfl fk_X6_23 rfl rfl ?_
      refine g_getr (q := 51) dX6_inheritBlock_48 rfl fk_X6_129 rfl rfl ?_
      refine g_iload (q := 53) dX6_inheritBlock_51 rfl rfl ?_
      refine g_ildv (q := 54) (z := S.2.1 13 (i : Int)) dX6_inheritBlock_53 rfl ⟨by decide, rfl, rfl⟩ (by omega) (by omega) rfl ?_
      refine g_istore (q := 56) dX6_inheritBlock_54 rfl (by decide) ?_
      refine g_iload (q := 58) dX6_inheritBlock_56 rfl rfl ?_
      refine g_iload_n (i := 2) (q := 59) dX6_inheritBlock_58 rfl rfl rfl ?_
      refine g_icmp_ne (t := 87) (q := 62) dX6_inheritBlock_59 (by decide) rfl (fun h59 => (False.elim (by omega))) (fun h59 => ?_)
      refine g_aload_n (i := 0) (q := 63) dX6_inheritBlock_62 rfl rfl rfl ?_
      refine g_getr (q := 66) dX6_inheritBlock_63 rfl fk_X6_23 rfl rfl ?_
      refine g_getr (q := 69) dX6_inheritBlock_66 rfl fk_X6_129 rfl rfl ?_
      refine g_iload (q := 71) dX6_inheritBlock_69 rfl rfl ?_
      refine g_iload_n (i := 3) (q := 72) dX6_inheritBlock_71 rfl rfl rfl ?_
      refine g_iast (q := 73) dX6_inheritBlock_72 rfl ⟨by decide, rfl, rfl⟩ (by omega) (by omega) ?_
      refine g_aload_n (i := 0) (q := 74) dX6_inheritBlock_73 rfl rfl rfl ?_
      refine g_getr (q := 77) dX6_inheritBlock_74 rfl fk_X6_23 rfl rfl ?_
      refine g_getr (q := 80) dX6_inheritBlock_77 rfl fk_X6_309 rfl rfl ?_
      refine g_iload (q := 82) dX6_inheritBlock_80 rfl rfl ?_
      refine g_iconst (q := 83) dX6_inheritBlock_82 rfl ⟨by decide, by decide⟩ ?_
      refine g_iast (q := 84) dX6_inheritBlock_83 rfl ⟨by decide, rfl, rfl⟩ (by omega) (by omega) ?_
      refine g_iinc (q := 87) (i := 5) (n := 1) dX6_inheritBlock_84 rfl rfl (by constructor <;> omega) ?_
      refine g_aload_n (i := 0) (q := 88) dX6_inheritBlock_87 rfl rfl rfl ?_
      refine g_iload (q := 90) dX6_inheritBlock_88 rfl rfl ?_
      refine g_iload_n (i := 3) (q := 91) dX6_inheritBlock_90 rfl rfl rfl ?_
      refine g_iload (q := 93) dX6_inheritBlock_91 rfl rfl ?_
      refine g_iload (q := 95) dX6_inheritBlock_93 rfl rfl ?_
      refine g_fnV (as := [zI (i : Int), zI h, zI (S.2.1 13 (i : Int)), zI hb]) (q := 98) (u' := 0) dX6_inheritBlock_95 rfl ck_X6_312 rfl rfl rfl (Nat.le_of_ble_eq_true rfl) (by decide) rfl (by decide) (s_X6_announceHeir (by omega) h0 (by rw [← e]; exact hm)) rfl ?_
      refine g_iinc (q := 101) (i := 7) (n := 1) dX6_inheritBlock_98 rfl rfl (by constructor <;> omega) ?_
      refine g_goto (q := 0) (t := 34) dX6_inheritBlock_101 (by decide) ?_
      rw [← e]
      exact ih (i + 1) _ (cnt + 1) (by omega) (by omega) h01 h6 (by omega) (by rw [Int.add_assoc]; exact hQ) _
    · have e : x_ib1 S i f h hb = x_ah S i h (S.2.1 13 i) hb := by unfold x_ib1; rw [if_neg hs]
      rw [if_neg hs, Int.zero_add] at hQ
      refine g_iload (q := 36) dX6_inheritBlock_34 rfl rfl ?_
      refine g_iload (q := 38) dX6_inheritBlock_36 rfl rfl ?_
      refine g_bipush (q := 40) dX6_inheritBlock_38 rfl ⟨by decide, by decide⟩ (by decide) ?_
      refine g_iadd (q := 41) dX6_inheritBlock_40 rfl (by constructor <;> omega) ?_
      refine g_icmp_ge (t := 104) (q := 44) dX6_inheritBlock_41 (by decide) rfl (fun h41 => (False.elim (by omega))) (fun h41 => ?_)
      refine g_aload_n (i := 0) (q := 45) dX6_inheritBlock_44 rfl rfl rfl ?_
      refine g_getr (q := 48) dX6_inheritBlock_45 rfl fk_X6_23 rfl rfl ?_
      refine g_getr (q := 51) dX6_inheritBlock_48 rfl fk_X6_129 rfl rfl ?_
      refine g_iload (q := 53) dX6_inheritBlock_51 rfl rfl ?_
      refine g_ildv (q := 54) (z := S.2.1 13 (i : Int)) dX6_inheritBlock_53 rfl ⟨by decide, rfl, rfl⟩ (by omega) (by omega) rfl ?_
      refine g_istore (q := 56) dX6_inheritBlock_54 rfl (by decide) ?_
      refine g_iload (q := 58) dX6_inheritBlock_56 rfl rfl ?_
      refine g_iload_n (i := 2) (q := 59) dX6_inheritBlock_58 rfl rfl rfl ?_
      refine g_icmp_ne (t := 87) (q := 62) dX6_inheritBlock_59 (by decide) rfl (fun h59 => ?_) (fun h59 => (False.elim (by omega)))
      refine g_aload_n (i := 0) (q := 88) dX6_inheritBlock_87 rfl rfl rfl ?_
      refine g_iload (q := 90) dX6_inheritBlock_88 rfl rfl ?_
      refine g_iload_n (i := 3) (q := 91) dX6_inheritBlock_90 rfl rfl rfl ?_
      refine g_iload (q := 93) dX6_inheritBlock_91 rfl rfl ?_
      refine g_iload (q := 95) dX6_inheritBlock_93 rfl rfl ?_
      refine g_fnV (as := [zI (i : Int), zI h, zI (S.2.1 13 (i : Int)), zI hb]) (q := 98) (u' := 0) dX6_inheritBlock_95 rfl ck_X6_312 rfl rfl rfl (Nat.le_of_ble_eq_true rfl) (by decide) rfl (by decide) (s_X6_announceHeir (by omega) h0 (by rw [← e]; exact hm)) rfl ?_
      refine g_iinc (q := 101) (i := 7) (n := 1) dX6_inheritBlock_98 rfl rfl (by constructor <;> omega) ?_
      refine g_goto (q := 0) (t := 34) dX6_inheritBlock_101 (by decide) ?_
      rw [← e]
      exact ih (i + 1) _ cnt (by omega) (by omega) h01 h6 (by omega) hQ _
/-- one block -/
def x_ib (S : zS) (f h : Int) (b : Nat) : zS := x_ibl (if S.2.1 8 b = f then z_sA S 8 b h else S) f h (S.2.1 8 b) (10 * b) 10
def x_ibn (S : zS) (f h : Int) (b : Nat) : Int := x_ibc (if S.2.1 8 b = f then z_sA S 8 b h else S) f h (S.2.1 8 b) (10 * b) 10
theorem x_ib_mono {S : zS} {f h : Int} {b : Nat} : S.1 2 ≤ (x_ib S f h b).1 2 := by
  unfold x_ib
  refine Int.le_trans ?_ (x_ibl_mono _ _ _)
  split <;> exact Int.le_refl _
theorem s_X6_inheritBlock {S : zS} {f h : Int} {b : Nat} (hb : b < 20) (h0 : 0 ≤ S.1 2) (h6 : (x_ib S f h b).1 2 ≤ 600) : z_Fn mX6_inheritBlock [zR 0, zI b, zI f, zI h] S (some (zI (x_ibn S f h b))) (x_ib S f h b) := by
  refine z_enter (by decide +kernel) rfl (z_n1 trivial (z_n1 trivial (z_n1 trivial (z_n1 trivial z_n0)))) (Nat.le_of_ble_eq_true rfl) ?_
  have e : ((b : Int) * 10) = ((10 * b : Nat) : Int) := by omega
  by_cases hs : S.2.1 8 b = f
  · have e1 : x_ib S f h b = x_ibl (z_sA S 8 b h) f h (S.2.1 8 b) (10 * b) 10 := by unfold x_ib; rw [if_pos hs]
    have e2 : x_ibn S f h b = x_ibc (z_sA S 8 b h) f h (S.2.1 8 b) (10 * b) 10 := by unfold x_ibn; rw [if_pos hs]
    rw [e1] at h6 ⊢
    rw [e2]
    refine g_aload_n (i := 0) (q := 1) dX6_inheritBlock_0 rfl rfl rfl ?_
    refine g_getr (q := 4) dX6_inheritBlock_1 rfl fk_X6_9 rfl rfl ?_
    refine g_iload_n (i := 1) (q := 5) dX6_inheritBlock_4 rfl rfl rfl ?_
    refine g_ildv (q := 6) (z := S.2.1 8 (b : Int)) dX6_inheritBlock_5 rfl ⟨by decide, rfl, rfl⟩ (by omega) (by omega) rfl ?_
    refine g_istore (q := 8) dX6_inheritBlock_6 rfl (by decide) ?_
    refine g_iload (q := 10) dX6_inheritBlock_8 rfl rfl ?_
    refine g_iload_n (i := 2) (q := 11) dX6_inheritBlock_10 rfl rfl rfl ?_
    refine g_icmp_ne (t := 21) (q := 14) dX6_inheritBlock_11 (by decide) rfl (fun h11 => (False.elim (by omega))) (fun h11 => ?_)
    refine g_aload_n (i := 0) (q := 15) dX6_inheritBlock_14 rfl rfl rfl ?_
    refine g_getr (q := 18) dX6_inheritBlock_15 rfl fk_X6_9 rfl rfl ?_
    refine g_iload_n (i := 1) (q := 19) dX6_inheritBlock_18 rfl rfl rfl ?_
    refine g_iload_n (i := 3) (q := 20) dX6_inheritBlock_19 rfl rfl rfl ?_
    refine g_iast (q := 21) dX6_inheritBlock_20 rfl ⟨by decide, rfl, rfl⟩ (by omega) (by omega) ?_
    refine g_iconst (q := 22) dX6_inheritBlock_21 rfl ⟨by decide, by decide⟩ ?_
    refine g_istore (q := 24) dX6_inheritBlock_22 rfl (by decide) ?_
    refine g_iload_n (i := 1) (q := 25) dX6_inheritBlock_24 rfl rfl rfl ?_
    refine g_bipush (q := 27) dX6_inheritBlock_25 rfl ⟨by decide, by decide⟩ (by decide) ?_
    refine g_imul (q := 28) dX6_inheritBlock_27 rfl (by constructor <;> omega) ?_
    refine g_istore (q := 30) dX6_inheritBlock_28 rfl (by decide) ?_
    refine g_iload (q := 32) dX6_inheritBlock_30 rfl rfl ?_
    refine g_istore (q := 34) dX6_inheritBlock_32 rfl (by decide) ?_
    have hk := l_X6_inheritBlock (Q := fun x T => x = .ok (some (zI (x_ibc (z_sA S 8 b h) f h (S.2.1 8 b) (10 * b) 10))) ∧ T = x_ibl (z_sA S 8 b h) f h (S.2.1 8 b) (10 * b) 10) (hb := S.2.1 8 b) hb 10 (10 * b) (z_sA S 8 b h) 0 (by omega) (by omega) h0 h6 (by omega) ⟨by rw [Int.zero_add], rfl⟩ none
    rw [← e] at hk
    exact hk
  · have e1 : x_ib S f h b = x_ibl S f h (S.2.1 8 b) (10 * b) 10 := by unfold x_ib; rw [if_neg hs]
    have e2 : x_ibn S f h b = x_ibc S f h (S.2.1 8 b) (10 * b) 10 := by unfold x_ibn; rw [if_neg hs]
    rw [e1] at h6 ⊢
    rw [e2]
    refine g_aload_n (i := 0) (q := 1) dX6_inheritBlock_0 rfl rfl rfl ?_
    refine g_getr (q := 4) dX6_inheritBlock_1 rfl fk_X6_9 rfl rfl ?_
    refine g_iload_n (i := 1) (q := 5) dX6_inheritBlock_4 rfl rfl rfl ?_
    refine g_ildv (q := 6) (z := S.2.1 8 (b : Int)) dX6_inheritBlock_5 rfl ⟨by decide, rfl, rfl⟩ (by omega) (by omega) rfl ?_
    refine g_istore (q := 8) dX6_inheritBlock_6 rfl (by decide) ?_
    refine g_iload (q := 10) dX6_inheritBlock_8 rfl rfl ?_
    refine g_iload_n (i := 2) (q := 11) dX6_inheritBlock_10 rfl rfl rfl ?_
    refine g_icmp_ne (t := 21) (q := 14) dX6_inheritBlock_11 (by decide) rfl (fun h11 => ?_) (fun h11 => (False.elim (by omega)))
    refine g_iconst (q := 22) dX6_inheritBlock_21 rfl ⟨by decide, by decide⟩ ?_
    refine g_istore (q := 24) dX6_inheritBlock_22 rfl (by decide) ?_
    refine g_iload_n (i := 1) (q := 25) dX6_inheritBlock_24 rfl rfl rfl ?_
    refine g_bipush (q := 27) dX6_inheritBlock_25 rfl ⟨by decide, by decide⟩ (by decide) ?_
    refine g_imul (q := 28) dX6_inheritBlock_27 rfl (by constructor <;> omega) ?_
    refine g_istore (q := 30) dX6_inheritBlock_28 rfl (by decide) ?_
    refine g_iload (q := 32) dX6_inheritBlock_30 rfl rfl ?_
    refine g_istore (q := 34) dX6_inheritBlock_32 rfl (by decide) ?_
    have hk := l_X6_inheritBlock (Q := fun x T => x = .ok (some (zI (x_ibc S f h (S.2.1 8 b) (10 * b) 10))) ∧ T = x_ibl S f h (S.2.1 8 b) (10 * b) 10) (hb := S.2.1 8 b) hb 10 (10 * b) S 0 (by omega) (by omega) h0 h6 (by omega) ⟨by rw [Int.zero_add], rfl⟩ none
    rw [← e] at hk
    exact hk
