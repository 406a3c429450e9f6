/-! ===== the reference's small methods ===== -/
section
variable {M : zM} {F : zF} {u pc q : Nat} {al : List (Option zV)} {st : List zV} {S : zS}
theorem g_imulw {x y : Int} (hd : decode (m_c M) pc = .ok (.imul, 1)) (hq : pc + 1 = q) (k : z_G M F u q al (zI ((x * y).bmod (2 ^ 32)) :: st) S) : z_G M F u pc al (zI y :: zI x :: st) S := by
  intro E p l e R s m args below meth c C H locs ls hW hS hL hst
  subst hq
  refine lv_imul C.1 C.2.1 hd ?_
  rw [z_mul]
  have e1 : Int32.ofInt (x * y) = Int32.ofInt ((x * y).bmod (2 ^ 32)) := by
    apply Int32.toInt_inj.mp
    rw [Int32.toInt_ofInt, Int32.toInt_ofInt]
    exact (Int.bmod_bmod (x := x * y) (m := 2 ^ 32)).symm
  have hz : z_in ((x * y).bmod (2 ^ 32)) := by
    have h1 := z_rng (Int32.ofInt (x * y))
    rw [Int32.toInt_ofInt] at h1
    exact h1
  rw [e1]
  exact k E p l e R s m args below meth c C H locs ls hW hS hL (z_cons hz (z_tail (z_tail hst)))
end
theorem z_sS_sS {S : zS} {i : Nat} {a b : Int} : z_sS (z_sS S i a) i b = z_sS S i b := by
  unfold z_sS
  congr 1
  funext j
  by_cases h : j = i
  · rw [if_pos h, if_pos h]
  · rw [if_neg h, if_neg h]
    show (if j = i then a else S.1 j) = S.1 j
    rw [if_neg h]
theorem t_thrown {S : zS} : z_Fn mX7_thrown [zR 7] S (some (zI (S.1 5))) S := by
  refine z_enter (by decide +kernel) rfl (z_n1 trivial z_n0) (Nat.le_of_ble_eq_true rfl) ?_
  refine g_aload_n (i := 0) (q := 1) dX7_thrown_0 rfl rfl rfl ?_
  refine g_getv (q := 4) (z := S.1 5) dX7_thrown_1 rfl fk_X7_80 rfl rfl rfl ?_
  exact g_ret dX7_thrown_4 rfl (by decide) (by first | exact ⟨rfl, rfl⟩ | (exfalso; omega))
theorem t_in_t {S : zS} {v a b : Int} (h : a ≤ v ∧ v ≤ b) : z_Fn mX7_in [zI v, zI a, zI b] S (some (zI 1)) S := by
  refine z_enter (by decide +kernel) rfl (z_n1 trivial (z_n1 trivial (z_n1 trivial z_n0))) (Nat.le_of_ble_eq_true rfl) ?_
  refine g_iload_n (i := 0) (q := 1) dX7_in_0 rfl rfl rfl ?_
  refine g_iload_n (i := 1) (q := 2) dX7_in_1 rfl rfl rfl ?_
  refine g_icmp_lt (t := 14) (q := 5) dX7_in_2 (by decide) rfl (fun h2 => ?_) (fun h2 => ?_)
  · refine g_iconst (q := 15) dX7_in_14 rfl ⟨by decide, by decide⟩ ?_
    exact g_retz dX7_in_15 rfl (by omega) (by decide) (by first | exact ⟨rfl, rfl⟩ | (exfalso; omega))
  · refine g_iload_n (i := 0) (q := 6) dX7_in_5 rfl rfl rfl ?_
    refine g_iload_n (i := 2) (q := 7) dX7_in_6 rfl rfl rfl ?_
    refine g_icmp_gt (t := 14) (q := 10) dX7_in_7 (by decide) rfl (fun h7 => ?_) (fun h7 => ?_)
    · refine g_iconst (q := 15) dX7_in_14 rfl ⟨by decide, by decide⟩ ?_
      exact g_retz dX7_in_15 rfl (by omega) (by decide) (by first | exact ⟨rfl, rfl⟩ | (exfalso; omega))
    · refine g_iconst (q := 11) dX7_in_10 rfl ⟨by decide, by decide⟩ ?_
      refine g_goto (q := 0) (t := 15) dX7_in_11 (by decide) ?_
      exact g_retz dX7_in_15 rfl (by omega) (by decide) (by first | exact ⟨rfl, rfl⟩ | (exfalso; omega))
theorem t_in_f {S : zS} {v a b : Int} (h : ¬ (a ≤ v ∧ v ≤ b)) : z_Fn mX7_in [zI v, zI a, zI b] S (some (zI 0)) S := by
  refine z_enter (by decide +kernel) rfl (z_n1 trivial (z_n1 trivial (z_n1 trivial z_n0))) (Nat.le_of_ble_eq_true rfl) ?_
  refine g_iload_n (i := 0) (q := 1) dX7_in_0 rfl rfl rfl ?_
  refine g_iload_n (i := 1) (q := 2) dX7_in_1 rfl rfl rfl ?_
  refine g_icmp_lt (t := 14) (q := 5) dX7_in_2 (by decide) rfl (fun h2 => ?_) (fun h2 => ?_)
  · refine g_iconst (q := 15) dX7_in_14 rfl ⟨by decide, by decide⟩ ?_
    exact g_retz dX7_in_15 rfl (by omega) (by decide) (by first | exact ⟨rfl, rfl⟩ | (exfalso; omega))
  · refine g_iload_n (i := 0) (q := 6) dX7_in_5 rfl rfl rfl ?_
    refine g_iload_n (i := 2) (q := 7) dX7_in_6 rfl rfl rfl ?_
    refine g_icmp_gt (t := 14) (q := 10) dX7_in_7 (by decide) rfl (fun h7 => ?_) (fun h7 => ?_)
    · refine g_iconst (q := 15) dX7_in_14 rfl ⟨by decide, by decide⟩ ?_
      exact g_retz dX7_in_15 rfl (by omega) (by decide) (by first | exact ⟨rfl, rfl⟩ | (exfalso; omega))
    · refine g_iconst (q := 11) dX7_in_10 rfl ⟨by decide, by decide⟩ ?_
      refine g_goto (q := 0) (t := 15) dX7_in_11 (by decide) ?_
      exact g_retz dX7_in_15 rfl (by omega) (by decide) (by first | exact ⟨rfl, rfl⟩ | (exfalso; omega))
theorem t_isFirm_t {S : zS} {f : Int} (h : 0 ≤ f ∧ f < 6) : z_Fn mX7_isFirm [zI f] S (some (zI 1)) S := by
  refine z_enter (by decide +kernel) rfl (z_n1 trivial z_n0) (Nat.le_of_ble_eq_true rfl) ?_
  refine g_iload_n (i := 0) (q := 1) dX7_isFirm_0 rfl rfl rfl ?_
  refine g_iconst (q := 2) dX7_isFirm_1 rfl ⟨by decide, by decide⟩ ?_
  refine g_iconst (q := 3) dX7_isFirm_2 rfl ⟨by decide, by decide⟩ ?_
  refine g_fnS (as := [zI f, zI 0, zI 5]) (q := 6) (u' := 0) dX7_isFirm_3 rfl ck_X7_84 rfl rfl (Nat.le_of_ble_eq_true rfl) (by decide) rfl (by decide) (t_in_t (by omega)) rfl ?_
  exact g_retz dX7_isFirm_6 rfl (by omega) (by decide) (by first | exact ⟨rfl, rfl⟩ | (exfalso; omega))
theorem t_isFirm_f {S : zS} {f : Int} (h : ¬ (0 ≤ f ∧ f < 6)) : z_Fn mX7_isFirm [zI f] S (some (zI 0)) S := by
  refine z_enter (by decide +kernel) rfl (z_n1 trivial z_n0) (Nat.le_of_ble_eq_true rfl) ?_
  refine g_iload_n (i := 0) (q := 1) dX7_isFirm_0 rfl rfl rfl ?_
  refine g_iconst (q := 2) dX7_isFirm_1 rfl ⟨by decide, by decide⟩ ?_
  refine g_iconst (q := 3) dX7_isFirm_2 rfl ⟨by decide, by decide⟩ ?_
  refine g_fnS (as := [zI f, zI 0, zI 5]) (q := 6) (u' := 0) dX7_isFirm_3 rfl ck_X7_84 rfl rfl (Nat.le_of_ble_eq_true rfl) (by decide) rfl (by decide) (t_in_f (by omega)) rfl ?_
  exact g_retz dX7_isFirm_6 rfl (by omega) (by decide) (by first | exact ⟨rfl, rfl⟩ | (exfalso; omega))
theorem t_isNumber_t {S : zS} {f : Int} (h : 0 ≤ f ∧ f < 200) : z_Fn mX7_isNumber [zI f] S (some (zI 1)) S := by
  refine z_enter (by decide +kernel) rfl (z_n1 trivial z_n0) (Nat.le_of_ble_eq_true rfl) ?_
  refine g_iload_n (i := 0) (q := 1) dX7_isNumber_0 rfl rfl rfl ?_
  refine g_iconst (q := 2) dX7_isNumber_1 rfl ⟨by decide, by decide⟩ ?_
  refine g_sipush (q := 5) dX7_isNumber_2 rfl ⟨by decide, by decide⟩ (by decide) ?_
  refine g_fnS (as := [zI f, zI 0, zI 199]) (q := 8) (u' := 0) dX7_isNumber_5 rfl ck_X7_84 rfl rfl (Nat.le_of_ble_eq_true rfl) (by decide) rfl (by decide) (t_in_t (by omega)) rfl ?_
  exact g_retz dX7_isNumber_8 rfl (by omega) (by decide) (by first | exact ⟨rfl, rfl⟩ | (exfalso; omega))
theorem t_isNumber_f {S : zS} {f : Int} (h : ¬ (0 ≤ f ∧ f < 200)) : z_Fn mX7_isNumber [zI f] S (some (zI 0)) S := by
  refine z_enter (by decide +kernel) rfl (z_n1 trivial z_n0) (Nat.le_of_ble_eq_true rfl) ?_
  refine g_iload_n (i := 0) (q := 1) dX7_isNumber_0 rfl rfl rfl ?_
  refine g_iconst (q := 2) dX7_isNumber_1 rfl ⟨by decide, by decide⟩ ?_
  refine g_sipush (q := 5) dX7_isNumber_2 rfl ⟨by decide, by decide⟩ (by decide) ?_
  refine g_fnS (as := [zI f, zI 0, zI 199]) (q := 8) (u' := 0) dX7_isNumber_5 rfl ck_X7_84 rfl rfl (Nat.le_of_ble_eq_true rfl) (by decide) rfl (by decide) (t_in_f (by omega)) rfl ?_
  exact g_retz dX7_isNumber_8 rfl (by omega) (by decide) (by first | exact ⟨rfl, rfl⟩ | (exfalso; omega))
theorem t_isBlock_t {S : zS} {f : Int} (h : 0 ≤ f ∧ f < 20) : z_Fn mX7_isBlock [zI f] S (some (zI 1)) S := by
  refine z_enter (by decide +kernel) rfl (z_n1 trivial z_n0) (Nat.le_of_ble_eq_true rfl) ?_
  refine g_iload_n (i := 0) (q := 1) dX7_isBlock_0 rfl rfl rfl ?_
  refine g_iconst (q := 2) dX7_isBlock_1 rfl ⟨by decide, by decide⟩ ?_
  refine g_bipush (q := 4) dX7_isBlock_2 rfl ⟨by decide, by decide⟩ (by decide) ?_
  refine g_fnS (as := [zI f, zI 0, zI 19]) (q := 7) (u' := 0) dX7_isBlock_4 rfl ck_X7_84 rfl rfl (Nat.le_of_ble_eq_true rfl) (by decide) rfl (by decide) (t_in_t (by omega)) rfl ?_
  exact g_retz dX7_isBlock_7 rfl (by omega) (by decide) (by first | exact ⟨rfl, rfl⟩ | (exfalso; omega))
theorem t_isBlock_f {S : zS} {f : Int} (h : ¬ (0 ≤ f ∧ f < 20)) : z_Fn mX7_isBlock [zI f] S (some (zI 0)) S := by
  refine z_enter (by decide +kernel) rfl (z_n1 trivial z_n0) (Nat.le_of_ble_eq_true rfl) ?_
  refine g_iload_n (i := 0) (q := 1) dX7_isBlock_0 rfl rfl rfl ?_
  refine g_iconst (q := 2) dX7_isBlock_1 rfl ⟨by decide, by decide⟩ ?_
  refine g_bipush (q := 4) dX7_isBlock_2 rfl ⟨by decide, by decide⟩ (by decide) ?_
  refine g_fnS (as := [zI f, zI 0, zI 19]) (q := 7) (u' := 0) dX7_isBlock_4 rfl ck_X7_84 rfl rfl (Nat.le_of_ble_eq_true rfl) (by decide) rfl (by decide) (t_in_f (by omega)) rfl ?_
  exact g_retz dX7_isBlock_7 rfl (by omega) (by decide) (by first | exact ⟨rfl, rfl⟩ | (exfalso; omega))
theorem t_isSecret_t {S : zS} {f : Int} (h : 0 ≤ f ∧ f < 100) : z_Fn mX7_isSecret [zI f] S (some (zI 1)) S := by
  refine z_enter (by decide +kernel) rfl (z_n1 trivial z_n0) (Nat.le_of_ble_eq_true rfl) ?_
  refine g_iload_n (i := 0) (q := 1) dX7_isSecret_0 rfl rfl rfl ?_
  refine g_iconst (q := 2) dX7_isSecret_1 rfl ⟨by decide, by decide⟩ ?_
  refine g_bipush (q := 4) dX7_isSecret_2 rfl ⟨by decide, by decide⟩ (by decide) ?_
  refine g_fnS (as := [zI f, zI 0, zI 99]) (q := 7) (u' := 0) dX7_isSecret_4 rfl ck_X7_84 rfl rfl (Nat.le_of_ble_eq_true rfl) (by decide) rfl (by decide) (t_in_t (by omega)) rfl ?_
  exact g_retz dX7_isSecret_7 rfl (by omega) (by decide) (by first | exact ⟨rfl, rfl⟩ | (exfalso; omega))
theorem t_isSecret_f {S : zS} {f : Int} (h : ¬ (0 ≤ f ∧ f < 100)) : z_Fn mX7_isSecret [zI f] S (some (zI 0)) S := by
  refine z_enter (by decide +kernel) rfl (z_n1 trivial z_n0) (Nat.le_of_ble_eq_true rfl) ?_
  refine g_iload_n (i := 0) (q := 1) dX7_isSecret_0 rfl rfl rfl ?_
  refine g_iconst (q := 2) dX7_isSecret_1 rfl ⟨by decide, by decide⟩ ?_
  refine g_bipush (q := 4) dX7_isSecret_2 rfl ⟨by decide, by decide⟩ (by decide) ?_
  refine g_fnS (as := [zI f, zI 0, zI 99]) (q := 7) (u' := 0) dX7_isSecret_4 rfl ck_X7_84 rfl rfl (Nat.le_of_ble_eq_true rfl) (by decide) rfl (by decide) (t_in_f (by omega)) rfl ?_
  exact g_retz dX7_isSecret_7 rfl (by omega) (by decide) (by first | exact ⟨rfl, rfl⟩ | (exfalso; omega))
theorem t_isOrder_t {S : zS} {o : Int} (hc : 0 ≤ S.1 7 ∧ S.1 7 ≤ 60) (h : 0 ≤ o ∧ o < S.1 7) : z_Fn mX7_isOrder [zR 7, zI o] S (some (zI 1)) S := by
  refine z_enter (by decide +kernel) rfl (z_n1 trivial (z_n1 trivial z_n0)) (Nat.le_of_ble_eq_true rfl) ?_
  refine g_iload_n (i := 1) (q := 1) dX7_isOrder_0 rfl rfl rfl ?_
  refine g_iconst (q := 2) dX7_isOrder_1 rfl ⟨by decide, by decide⟩ ?_
  refine g_aload_n (i := 0) (q := 3) dX7_isOrder_2 rfl rfl rfl ?_
  refine g_getv (q := 6) (z := S.1 7) dX7_isOrder_3 rfl fk_X7_88 rfl rfl rfl ?_
  refine g_iconst (q := 7) dX7_isOrder_6 rfl ⟨by decide, by decide⟩ ?_
  refine g_isub (q := 8) dX7_isOrder_7 rfl (by constructor <;> omega) ?_
  refine g_fnS (as := [zI o, zI 0, zI ((S.1 7) - 1)]) (q := 11) (u' := 0) dX7_isOrder_8 rfl ck_X7_84 rfl rfl (Nat.le_of_ble_eq_true rfl) (by decide) rfl (by decide) (t_in_t (by omega)) rfl ?_
  exact g_retz dX7_isOrder_11 rfl (by omega) (by decide) (by first | exact ⟨rfl, rfl⟩ | (exfalso; omega))
theorem t_isOrder_f {S : zS} {o : Int} (hc : 0 ≤ S.1 7 ∧ S.1 7 ≤ 60) (h : ¬ (0 ≤ o ∧ o < S.1 7)) : z_Fn mX7_isOrder [zR 7, zI o] S (some (zI 0)) S := by
  refine z_enter (by decide +kernel) rfl (z_n1 trivial (z_n1 trivial z_n0)) (Nat.le_of_ble_eq_true rfl) ?_
  refine g_iload_n (i := 1) (q := 1) dX7_isOrder_0 rfl rfl rfl ?_
  refine g_iconst (q := 2) dX7_isOrder_1 rfl ⟨by decide, by decide⟩ ?_
  refine g_aload_n (i := 0) (q := 3) dX7_isOrder_2 rfl rfl rfl ?_
  refine g_getv (q := 6) (z := S.1 7) dX7_isOrder_3 rfl fk_X7_88 rfl rfl rfl ?_
  refine g_iconst (q := 7) dX7_isOrder_6 rfl ⟨by decide, by decide⟩ ?_
  refine g_isub (q := 8) dX7_isOrder_7 rfl (by constructor <;> omega) ?_
  refine g_fnS (as := [zI o, zI 0, zI ((S.1 7) - 1)]) (q := 11) (u' := 0) dX7_isOrder_8 rfl ck_X7_84 rfl rfl (Nat.le_of_ble_eq_true rfl) (by decide) rfl (by decide) (t_in_f (by omega)) rfl ?_
  exact g_retz dX7_isOrder_11 rfl (by omega) (by decide) (by first | exact ⟨rfl, rfl⟩ | (exfalso; omega))
theorem t_holderOf {S : zS} {n : Int} (hn : 0 ≤ n ∧ n < 200) : z_Fn mX7_holderOf [zR 7, zI n] S (some (zI (S.2.1 40 (n / 10)))) S := by
  refine z_enter (by decide +kernel) rfl (z_n1 trivial (z_n1 trivial z_n0)) (Nat.le_of_ble_eq_true rfl) ?_
  refine g_aload_n (i := 0) (q := 1) dX7_holderOf_0 rfl rfl rfl ?_
  refine g_getr (q := 4) dX7_holderOf_1 rfl fk_X7_7 rfl rfl ?_
  refine g_iload_n (i := 1) (q := 5) dX7_holderOf_4 rfl rfl rfl ?_
  refine g_bipush (q := 7) dX7_holderOf_5 rfl ⟨by decide, by decide⟩ (by decide) ?_
  refine g_idiv (q := 8) dX7_holderOf_7 rfl (by omega) (by omega) ?_
  refine g_ildv (q := 9) (z := S.2.1 40 (n / 10)) dX7_holderOf_8 rfl ⟨by decide, rfl, rfl⟩ (by omega) (by omega) rfl ?_
  exact g_ret dX7_holderOf_9 rfl (by decide) (by first | exact ⟨rfl, rfl⟩ | (exfalso; omega))
/-- the reference's minutes are in range -/
def yM (S : zS) : Prop := (0 ≤ S.1 6 ∧ S.1 6 ≤ 9999) ∧ ∀ n : Int, 0 ≤ n → n < 200 → (-1000 ≤ S.2.1 44 n ∧ S.2.1 44 n ≤ 9999) ∧ (-1000 ≤ S.2.1 45 n ∧ S.2.1 45 n ≤ 9999) ∧ (-1000 ≤ S.2.1 46 n ∧ S.2.1 46 n ≤ 9999)
theorem t_isQuarantined_t {S : zS} {n : Int} (hM : yM S) (hn : 0 ≤ n ∧ n < 200) (h : S.1 6 - S.2.1 44 n < 100) : z_Fn mX7_isQuarantined [zR 7, zI n] S (some (zI 1)) S := by
  have hM1 := hM.1
  have hM2 := hM.2 n hn.1 hn.2
  refine z_enter (by decide +kernel) rfl (z_n1 trivial (z_n1 trivial z_n0)) (Nat.le_of_ble_eq_true rfl) ?_
  refine g_aload_n (i := 0) (q := 1) dX7_isQuarantined_0 rfl rfl rfl ?_
  refine g_getv (q := 4) (z := S.1 6) dX7_isQuarantined_1 rfl fk_X7_91 rfl rfl rfl ?_
  refine g_aload_n (i := 0) (q := 5) dX7_isQuarantined_4 rfl rfl rfl ?_
  refine g_getr (q := 8) dX7_isQuarantined_5 rfl fk_X7_23 rfl rfl ?_
  refine g_iload_n (i := 1) (q := 9) dX7_isQuarantined_8 rfl rfl rfl ?_
  refine g_ildv (q := 10) (z := S.2.1 44 n) dX7_isQuarantined_9 rfl ⟨by decide, rfl, rfl⟩ (by omega) (by omega) rfl ?_
  refine g_isub (q := 11) dX7_isQuarantined_10 rfl (by constructor <;> omega) ?_
  refine g_bipush (q := 13) dX7_isQuarantined_11 rfl ⟨by decide, by decide⟩ (by decide) ?_
  refine g_icmp_ge (t := 20) (q := 16) dX7_isQuarantined_13 (by decide) rfl (fun h13 => ?_) (fun h13 => ?_)
  · refine g_iconst (q := 21) dX7_isQuarantined_20 rfl ⟨by decide, by decide⟩ ?_
    exact g_retz dX7_isQuarantined_21 rfl (by omega) (by decide) (by first | exact ⟨rfl, rfl⟩ | (exfalso; omega))
  · refine g_iconst (q := 17) dX7_isQuarantined_16 rfl ⟨by decide, by decide⟩ ?_
    refine g_goto (q := 0) (t := 21) dX7_isQuarantined_17 (by decide) ?_
    exact g_retz dX7_isQuarantined_21 rfl (by omega) (by decide) (by first | exact ⟨rfl, rfl⟩ | (exfalso; omega))
theorem t_isQuarantined_f {S : zS} {n : Int} (hM : yM S) (hn : 0 ≤ n ∧ n < 200) (h : ¬ S.1 6 - S.2.1 44 n < 100) : z_Fn mX7_isQuarantined [zR 7, zI n] S (some (zI 0)) S := by
  have hM1 := hM.1
  have hM2 := hM.2 n hn.1 hn.2
  refine z_enter (by decide +kernel) rfl (z_n1 trivial (z_n1 trivial z_n0)) (Nat.le_of_ble_eq_true rfl) ?_
  refine g_aload_n (i := 0) (q := 1) dX7_isQuarantined_0 rfl rfl rfl ?_
  refine g_getv (q := 4) (z := S.1 6) dX7_isQuarantined_1 rfl fk_X7_91 rfl rfl rfl ?_
  refine g_aload_n (i := 0) (q := 5) dX7_isQuarantined_4 rfl rfl rfl ?_
  refine g_getr (q := 8) dX7_isQuarantined_5 rfl fk_X7_23 rfl rfl ?_
  refine g_iload_n (i := 1) (q := 9) dX7_isQuarantined_8 rfl rfl rfl ?_
  refine g_ildv (q := 10) (z := S.2.1 44 n) dX7_isQuarantined_9 rfl ⟨by decide, rfl, rfl⟩ (by omega) (by omega) rfl ?_
  refine g_isub (q := 11) dX7_isQuarantined_10 rfl (by constructor <;> omega) ?_
  refine g_bipush (q := 13) dX7_isQuarantined_11 rfl ⟨by decide, by decide⟩ (by decide) ?_
  refine g_icmp_ge (t := 20) (q := 16) dX7_isQuarantined_13 (by decide) rfl (fun h13 => ?_) (fun h13 => ?_)
  · refine g_iconst (q := 21) dX7_isQuarantined_20 rfl ⟨by decide, by decide⟩ ?_
    exact g_retz dX7_isQuarantined_21 rfl (by omega) (by decide) (by first | exact ⟨rfl, rfl⟩ | (exfalso; omega))
  · refine g_iconst (q := 17) dX7_isQuarantined_16 rfl ⟨by decide, by decide⟩ ?_
    refine g_goto (q := 0) (t := 21) dX7_isQuarantined_17 (by decide) ?_
    exact g_retz dX7_isQuarantined_21 rfl (by omega) (by decide) (by first | exact ⟨rfl, rfl⟩ | (exfalso; omega))
theorem t_isSilent_t {S : zS} {n : Int} (hM : yM S) (hn : 0 ≤ n ∧ n < 200) (h : S.1 6 - S.2.1 45 n < 50) : z_Fn mX7_isSilent [zR 7, zI n] S (some (zI 1)) S := by
  have hM1 := hM.1
  have hM2 := hM.2 n hn.1 hn.2
  refine z_enter (by decide +kernel) rfl (z_n1 trivial (z_n1 trivial z_n0)) (Nat.le_of_ble_eq_true rfl) ?_
  refine g_aload_n (i := 0) (q := 1) dX7_isSilent_0 rfl rfl rfl ?_
  refine g_getv (q := 4) (z := S.1 6) dX7_isSilent_1 rfl fk_X7_91 rfl rfl rfl ?_
  refine g_aload_n (i := 0) (q := 5) dX7_isSilent_4 rfl rfl rfl ?_
  refine g_getr (q := 8) dX7_isSilent_5 rfl fk_X7_26 rfl rfl ?_
  refine g_iload_n (i := 1) (q := 9) dX7_isSilent_8 rfl rfl rfl ?_
  refine g_ildv (q := 10) (z := S.2.1 45 n) dX7_isSilent_9 rfl ⟨by decide, rfl, rfl⟩ (by omega) (by omega) rfl ?_
  refine g_isub (q := 11) dX7_isSilent_10 rfl (by constructor <;> omega) ?_
  refine g_bipush (q := 13) dX7_isSilent_11 rfl ⟨by decide, by decide⟩ (by decide) ?_
  refine g_icmp_ge (t := 20) (q := 16) dX7_isSilent_13 (by decide) rfl (fun h13 => ?_) (fun h13 => ?_)
  · refine g_iconst (q := 21) dX7_isSilent_20 rfl ⟨by decide, by decide⟩ ?_
    exact g_retz dX7_isSilent_21 rfl (by omega) (by decide) (by first | exact ⟨rfl, rfl⟩ | (exfalso; omega))
  · refine g_iconst (q := 17) dX7_isSilent_16 rfl ⟨by decide, by decide⟩ ?_
    refine g_goto (q := 0) (t := 21) dX7_isSilent_17 (by decide) ?_
    exact g_retz dX7_isSilent_21 rfl (by omega) (by decide) (by first | exact ⟨rfl, rfl⟩ | (exfalso; omega))
theorem t_isSilent_f {S : zS} {n : Int} (hM : yM S) (hn : 0 ≤ n ∧ n < 200) (h : ¬ S.1 6 - S.2.1 45 n < 50) : z_Fn mX7_isSilent [zR 7, zI n] S (some (zI 0)) S := by
  have hM1 := hM.1
  have hM2 := hM.2 n hn.1 hn.2
  refine z_enter (by decide +kernel) rfl (z_n1 trivial (z_n1 trivial z_n0)) (Nat.le_of_ble_eq_true rfl) ?_
  refine g_aload_n (i := 0) (q := 1) dX7_isSilent_0 rfl rfl rfl ?_
  refine g_getv (q := 4) (z := S.1 6) dX7_isSilent_1 rfl fk_X7_91 rfl rfl rfl ?_
  refine g_aload_n (i := 0) (q := 5) dX7_isSilent_4 rfl rfl rfl ?_
  refine g_getr (q := 8) dX7_isSilent_5 rfl fk_X7_26 rfl rfl ?_
  refine g_iload_n (i := 1) (q := 9) dX7_isSilent_8 rfl rfl rfl ?_
  refine g_ildv (q := 10) (z := S.2.1 45 n) dX7_isSilent_9 rfl ⟨by decide, rfl, rfl⟩ (by omega) (by omega) rfl ?_
  refine g_isub (q := 11) dX7_isSilent_10 rfl (by constructor <;> omega) ?_
  refine g_bipush (q := 13) dX7_isSilent_11 rfl ⟨by decide, by decide⟩ (by decide) ?_
  refine g_icmp_ge (t := 20) (q := 16) dX7_isSilent_13 (by decide) rfl (fun h13 => ?_) (fun h13 => ?_)
  · refine g_iconst (q := 21) dX7_isSilent_20 rfl ⟨by decide, by decide⟩ ?_
    exact g_retz dX7_isSilent_21 rfl (by omega) (by decide) (by first | exact ⟨rfl, rfl⟩ | (exfalso; omega))
  · refine g_iconst (q := 17) dX7_isSilent_16 rfl ⟨by decide, by decide⟩ ?_
    refine g_goto (q := 0) (t := 21) dX7_isSilent_17 (by decide) ?_
    exact g_retz dX7_isSilent_21 rfl (by omega) (by decide) (by first | exact ⟨rfl, rfl⟩ | (exfalso; omega))
theorem t_isCalledBack_t {S : zS} {n : Int} (hM : yM S) (hn : 0 ≤ n ∧ n < 200) (h : S.1 6 - S.2.1 46 n ≤ 30) : z_Fn mX7_isCalledBack [zR 7, zI n] S (some (zI 1)) S := by
  have hM1 := hM.1
  have hM2 := hM.2 n hn.1 hn.2
  refine z_enter (by decide +kernel) rfl (z_n1 trivial (z_n1 trivial z_n0)) (Nat.le_of_ble_eq_true rfl) ?_
  refine g_aload_n (i := 0) (q := 1) dX7_isCalledBack_0 rfl rfl rfl ?_
  refine g_getv (q := 4) (z := S.1 6) dX7_isCalledBack_1 rfl fk_X7_91 rfl rfl rfl ?_
  refine g_aload_n (i := 0) (q := 5) dX7_isCalledBack_4 rfl rfl rfl ?_
  refine g_getr (q := 8) dX7_isCalledBack_5 rfl fk_X7_29 rfl rfl ?_
  refine g_iload_n (i := 1) (q := 9) dX7_isCalledBack_8 rfl rfl rfl ?_
  refine g_ildv (q := 10) (z := S.2.1 46 n) dX7_isCalledBack_9 rfl ⟨by decide, rfl, rfl⟩ (by omega) (by omega) rfl ?_
  refine g_isub (q := 11) dX7_isCalledBack_10 rfl (by constructor <;> omega) ?_
  refine g_bipush (q := 13) dX7_isCalledBack_11 rfl ⟨by decide, by decide⟩ (by decide) ?_
  refine g_icmp_gt (t := 20) (q := 16) dX7_isCalledBack_13 (by decide) rfl (fun h13 => ?_) (fun h13 => ?_)
  · refine g_iconst (q := 21) dX7_isCalledBack_20 rfl ⟨by decide, by decide⟩ ?_
    exact g_retz dX7_isCalledBack_21 rfl (by omega) (by decide) (by first | exact ⟨rfl, rfl⟩ | (exfalso; omega))
  · refine g_iconst (q := 17) dX7_isCalledBack_16 rfl ⟨by decide, by decide⟩ ?_
    refine g_goto (q := 0) (t := 21) dX7_isCalledBack_17 (by decide) ?_
    exact g_retz dX7_isCalledBack_21 rfl (by omega) (by decide) (by first | exact ⟨rfl, rfl⟩ | (exfalso; omega))
theorem t_isCalledBack_f {S : zS} {n : Int} (hM : yM S) (hn : 0 ≤ n ∧ n < 200) (h : ¬ S.1 6 - S.2.1 46 n ≤ 30) : z_Fn mX7_isCalledBack [zR 7, zI n] S (some (zI 0)) S := by
  have hM1 := hM.1
  have hM2 := hM.2 n hn.1 hn.2
  refine z_enter (by decide +kernel) rfl (z_n1 trivial (z_n1 trivial z_n0)) (Nat.le_of_ble_eq_true rfl) ?_
  refine g_aload_n (i := 0) (q := 1) dX7_isCalledBack_0 rfl rfl rfl ?_
  refine g_getv (q := 4) (z := S.1 6) dX7_isCalledBack_1 rfl fk_X7_91 rfl rfl rfl ?_
  refine g_aload_n (i := 0) (q := 5) dX7_isCalledBack_4 rfl rfl rfl ?_
  refine g_getr (q := 8) dX7_isCalledBack_5 rfl fk_X7_29 rfl rfl ?_
  refine g_iload_n (i := 1) (q := 9) dX7_isCalledBack_8 rfl rfl rfl ?_
  refine g_ildv (q := 10) (z := S.2.1 46 n) dX7_isCalledBack_9 rfl ⟨by decide, rfl, rfl⟩ (by omega) (by omega) rfl ?_
  refine g_isub (q := 11) dX7_isCalledBack_10 rfl (by constructor <;> omega) ?_
  refine g_bipush (q := 13) dX7_isCalledBack_11 rfl ⟨by decide, by decide⟩ (by decide) ?_
  refine g_icmp_gt (t := 20) (q := 16) dX7_isCalledBack_13 (by decide) rfl (fun h13 => ?_) (fun h13 => ?_)
  · refine g_iconst (q := 21) dX7_isCalledBack_20 rfl ⟨by decide, by decide⟩ ?_
    exact g_retz dX7_isCalledBack_21 rfl (by omega) (by decide) (by first | exact ⟨rfl, rfl⟩ | (exfalso; omega))
  · refine g_iconst (q := 17) dX7_isCalledBack_16 rfl ⟨by decide, by decide⟩ ?_
    refine g_goto (q := 0) (t := 21) dX7_isCalledBack_17 (by decide) ?_
    exact g_retz dX7_isCalledBack_21 rfl (by omega) (by decide) (by first | exact ⟨rfl, rfl⟩ | (exfalso; omega))
def y_bo (S : zS) (f : Int) (c : Nat) : Nat := z_ct (fun o => decide (S.2.1 40 o = f)) c
theorem y_bo_s (S : zS) (f : Int) (i : Nat) : y_bo S f (i + 1) = y_bo S f i + if S.2.1 40 i = f then 1 else 0 := by
  unfold y_bo
  rw [z_ct]
  simp
theorem y_bo_le (S : zS) (f : Int) (i : Nat) : y_bo S f i ≤ i := z_ct_le _ _
theorem l_X7_blocksOf {Q : zQ} {S : zS} {f : Int}  (hQ : Q (.ok (some (zI (y_bo S f 20)))) S) : ∀ (k i : Nat) (w : Int), i + k = 20 → w = y_bo S f i → z_G mX7_blocksOf (z_F mX7_blocksOf Q) 0 4 [some (zR 7), some (zI f), some (zI w), some (zI (i : Int))] [] S := by
  intro k
  induction k with
  | zero =>
    intro i w hi hw
    have e : i = 20 := by omega
    subst e
    subst hw
    refine g_iload_n (i := 3) (q := 5) dX7_blocksOf_4 rfl rfl rfl ?_
    refine g_bipush (q := 7) dX7_blocksOf_5 rfl ⟨by decide, by decide⟩ (by decide) ?_
    refine g_icmp_ge (t := 34) (q := 10) dX7_blocksOf_7 (by decide) rfl (fun h7 => ?_) (fun h7 => (False.elim (by omega)))
    refine g_iload_n (i := 2) (q := 35) dX7_blocksOf_34 rfl rfl rfl ?_
    exact g_ret dX7_blocksOf_35 rfl (by decide) hQ
  | succ k ih =>
    intro i w hi hw
    have hle := y_bo_le S f i
    skip
    refine g_iload_n (i := 3) (q := 5) dX7_blocksOf_4 rfl rfl rfl ?_
    refine g_bipush (q := 7) dX7_blocksOf_5 rfl ⟨by decide, by decide⟩ (by decide) ?_
    refine g_icmp_ge (t := 34) (q := 10) dX7_blocksOf_7 (by decide) rfl (fun h7 => (False.elim (by omega))) (fun h7 => ?_)
    refine g_iload_n (i := 2) (q := 11) dX7_blocksOf_10 rfl rfl rfl ?_
    refine g_aload_n (i := 0) (q := 12) dX7_blocksOf_11 rfl rfl rfl ?_
    refine g_getr (q := 15) dX7_blocksOf_12 rfl fk_X7_7 rfl rfl ?_
    refine g_iload_n (i := 3) (q := 16) dX7_blocksOf_15 rfl rfl rfl ?_
    refine g_ildv (q := 17) (z := S.2.1 40 (i : Int)) dX7_blocksOf_16 rfl ⟨by decide, rfl, rfl⟩ (by omega) (by omega) rfl ?_
    refine g_iload_n (i := 1) (q := 18) dX7_blocksOf_17 rfl rfl rfl ?_
    refine g_icmp_ne (t := 25) (q := 21) dX7_blocksOf_18 (by decide) rfl (fun h18 => ?_) (fun h18 => ?_)
    · refine g_iconst (q := 26) dX7_blocksOf_25 rfl ⟨by decide, by decide⟩ ?_
      refine g_iadd (q := 27) dX7_blocksOf_26 rfl (by constructor <;> omega) ?_
      refine g_istore_n (i := 2) (q := 28) dX7_blocksOf_27 rfl rfl (by decide) ?_
      refine g_iinc (q := 31) (i := 3) (n := 1) dX7_blocksOf_28 rfl rfl (by constructor <;> omega) ?_
      refine g_goto (q := 0) (t := 4) dX7_blocksOf_31 (by decide) ?_
      exact ih (i + 1) _ (by omega) (by rw [y_bo_s]; split <;> omega)
    · refine g_iconst (q := 22) dX7_blocksOf_21 rfl ⟨by decide, by decide⟩ ?_
      refine g_goto (q := 0) (t := 26) dX7_blocksOf_22 (by decide) ?_
      refine g_iadd (q := 27) dX7_blocksOf_26 rfl (by constructor <;> omega) ?_
      refine g_istore_n (i := 2) (q := 28) dX7_blocksOf_27 rfl rfl (by decide) ?_
      refine g_iinc (q := 31) (i := 3) (n := 1) dX7_blocksOf_28 rfl rfl (by constructor <;> omega) ?_
      refine g_goto (q := 0) (t := 4) dX7_blocksOf_31 (by decide) ?_
      exact ih (i + 1) _ (by omega) (by rw [y_bo_s]; split <;> omega)
theorem t_blocksOf {S : zS} {f : Int}  : z_Fn mX7_blocksOf [zR 7, zI f] S (some (zI (y_bo S f 20))) S := by
  refine z_enter (by decide +kernel) rfl (z_n1 trivial (z_n1 trivial z_n0)) (Nat.le_of_ble_eq_true rfl) ?_
  refine g_iconst (q := 1) dX7_blocksOf_0 rfl ⟨by decide, by decide⟩ ?_
  refine g_istore_n (i := 2) (q := 2) dX7_blocksOf_1 rfl rfl (by decide) ?_
  refine g_iconst (q := 3) dX7_blocksOf_2 rfl ⟨by decide, by decide⟩ ?_
  refine g_istore_n (i := 3) (q := 4) dX7_blocksOf_3 rfl rfl (by decide) ?_
  exact l_X7_blocksOf ⟨rfl, rfl⟩ 20 0 0 (by omega) rfl
def y_sb (S : zS) (f : Int) (c : Nat) : Nat := z_ct (fun o => decide (S.2.1 42 o = f)) c
theorem y_sb_s (S : zS) (f : Int) (i : Nat) : y_sb S f (i + 1) = y_sb S f i + if S.2.1 42 i = f then 1 else 0 := by
  unfold y_sb
  rw [z_ct]
  simp
theorem y_sb_le (S : zS) (f : Int) (i : Nat) : y_sb S f i ≤ i := z_ct_le _ _
theorem l_X7_servedBy {Q : zQ} {S : zS} {f : Int}  (hQ : Q (.ok (some (zI (y_sb S f 200)))) S) : ∀ (k i : Nat) (w : Int), i + k = 200 → w = y_sb S f i → z_G mX7_servedBy (z_F mX7_servedBy Q) 0 4 [some (zR 7), some (zI f), some (zI w), some (zI (i : Int))] [] S := by
  intro k
  induction k with
  | zero =>
    intro i w hi hw
    have e : i = 200 := by omega
    subst e
    subst hw
    refine g_iload_n (i := 3) (q := 5) dX7_servedBy_4 rfl rfl rfl ?_
    refine g_sipush (q := 8) dX7_servedBy_5 rfl ⟨by decide, by decide⟩ (by decide) ?_
    refine g_icmp_ge (t := 35) (q := 11) dX7_servedBy_8 (by decide) rfl (fun h8 => ?_) (fun h8 => (False.elim (by omega)))
    refine g_iload_n (i := 2) (q := 36) dX7_servedBy_35 rfl rfl rfl ?_
    exact g_ret dX7_servedBy_36 rfl (by decide) hQ
  | succ k ih =>
    intro i w hi hw
    have hle := y_sb_le S f i
    skip
    refine g_iload_n (i := 3) (q := 5) dX7_servedBy_4 rfl rfl rfl ?_
    refine g_sipush (q := 8) dX7_servedBy_5 rfl ⟨by decide, by decide⟩ (by decide) ?_
    refine g_icmp_ge (t := 35) (q := 11) dX7_servedBy_8 (by decide) rfl (fun h8 => (False.elim (by omega))) (fun h8 => ?_)
    refine g_iload_n (i := 2) (q := 12) dX7_servedBy_11 rfl rfl rfl ?_
    refine g_aload_n (i := 0) (q := 13) dX7_servedBy_12 rfl rfl rfl ?_
    refine g_getr (q := 16) dX7_servedBy_13 rfl fk_X7_17 rfl rfl ?_
    refine g_iload_n (i := 3) (q := 17) dX7_servedBy_16 rfl rfl rfl ?_
    refine g_ildv (q := 18) (z := S.2.1 42 (i : Int)) dX7_servedBy_17 rfl ⟨by decide, rfl, rfl⟩ (by omega) (by omega) rfl ?_
    refine g_iload_n (i := 1) (q := 19) dX7_servedBy_18 rfl rfl rfl ?_
    refine g_icmp_ne (t := 26) (q := 22) dX7_servedBy_19 (by decide) rfl (fun h19 => ?_) (fun h19 => ?_)
    · refine g_iconst (q := 27) dX7_servedBy_26 rfl ⟨by decide, by decide⟩ ?_
      refine g_iadd (q := 28) dX7_servedBy_27 rfl (by constructor <;> omega) ?_
      refine g_istore_n (i := 2) (q := 29) dX7_servedBy_28 rfl rfl (by decide) ?_
      refine g_iinc (q := 32) (i := 3) (n := 1) dX7_servedBy_29 rfl rfl (by constructor <;> omega) ?_
      refine g_goto (q := 0) (t := 4) dX7_servedBy_32 (by decide) ?_
      exact ih (i + 1) _ (by omega) (by rw [y_sb_s]; split <;> omega)
    · refine g_iconst (q := 23) dX7_servedBy_22 rfl ⟨by decide, by decide⟩ ?_
      refine g_goto (q := 0) (t := 27) dX7_servedBy_23 (by decide) ?_
      refine g_iadd (q := 28) dX7_servedBy_27 rfl (by constructor <;> omega) ?_
      refine g_istore_n (i := 2) (q := 29) dX7_servedBy_28 rfl rfl (by decide) ?_
      refine g_iinc (q := 32) (i := 3) (n := 1) dX7_servedBy_29 rfl rfl (by constructor <;> omega) ?_
      refine g_goto (q := 0) (t := 4) dX7_servedBy_32 (by decide) ?_
      exact ih (i + 1) _ (by omega) (by rw [y_sb_s]; split <;> omega)
theorem t_servedBy {S : zS} {f : Int}  : z_Fn mX7_servedBy [zR 7, zI f] S (some (zI (y_sb S f 200))) S := by
  refine z_enter (by decide +kernel) rfl (z_n1 trivial (z_n1 trivial z_n0)) (Nat.le_of_ble_eq_true rfl) ?_
  refine g_iconst (q := 1) dX7_servedBy_0 rfl ⟨by decide, by decide⟩ ?_
  refine g_istore_n (i := 2) (q := 2) dX7_servedBy_1 rfl rfl (by decide) ?_
  refine g_iconst (q := 3) dX7_servedBy_2 rfl ⟨by decide, by decide⟩ ?_
  refine g_istore_n (i := 3) (q := 4) dX7_servedBy_3 rfl rfl (by decide) ?_
  exact l_X7_servedBy ⟨rfl, rfl⟩ 200 0 0 (by omega) rfl
def y_cw (S : zS)  (c : Nat) : Nat := z_ct (fun o => decide (S.2.1 48 o = 1)) c
theorem y_cw_s (S : zS)  (i : Nat) : y_cw S  (i + 1) = y_cw S  i + if S.2.1 48 i = 1 then 1 else 0 := by
  unfold y_cw
  rw [z_ct]
  simp
theorem y_cw_le (S : zS)  (i : Nat) : y_cw S  i ≤ i := z_ct_le _ _
theorem l_X7_waiting {Q : zQ} {S : zS} {zz : Int} {c : Nat} (hc : S.1 7 = c) (h60 : c ≤ 60) (hQ : Q (.ok (some (zI (y_cw S  c)))) S) : ∀ (k i : Nat) (w : Int), i + k = c → w = y_cw S  i → z_G mX7_waiting (z_F mX7_waiting Q) 0 4 [some (zR 7), some (zI w), some (zI (i : Int))] [] S := by
  intro k
  induction k with
  | zero =>
    intro i w hi hw
    have e : i = c := by omega
    subst e
    subst hw
    refine g_iload_n (i := 2) (q := 5) dX7_waiting_4 rfl rfl rfl ?_
    refine g_aload_n (i := 0) (q := 6) dX7_waiting_5 rfl rfl rfl ?_
    refine g_getv (q := 9) (z := S.1 7) dX7_waiting_6 rfl fk_X7_88 rfl rfl rfl ?_
    refine g_icmp_ge (t := 36) (q := 12) dX7_waiting_9 (by decide) rfl (fun h9 => ?_) (fun h9 => (False.elim (by omega)))
    refine g_iload_n (i := 1) (q := 37) dX7_waiting_36 rfl rfl rfl ?_
    exact g_ret dX7_waiting_37 rfl (by decide) hQ
  | succ k ih =>
    intro i w hi hw
    have hle := y_cw_le S  i
    have hlt : (i : Int) < S.1 7 := by omega
    refine g_iload_n (i := 2) (q := 5) dX7_waiting_4 rfl rfl rfl ?_
    refine g_aload_n (i := 0) (q := 6) dX7_waiting_5 rfl rfl rfl ?_
    refine g_getv (q := 9) (z := S.1 7) dX7_waiting_6 rfl fk_X7_88 rfl rfl rfl ?_
    refine g_icmp_ge (t := 36) (q := 12) dX7_waiting_9 (by decide) rfl (fun h9 => (False.elim (by omega))) (fun h9 => ?_)
    refine g_iload_n (i := 1) (q := 13) dX7_waiting_12 rfl rfl rfl ?_
    refine g_aload_n (i := 0) (q := 14) dX7_waiting_13 rfl rfl rfl ?_
    refine g_getr (q := 17) dX7_waiting_14 rfl fk_X7_35 rfl rfl ?_
    refine g_iload_n (i := 2) (q := 18) dX7_waiting_17 rfl rfl rfl ?_
    refine g_ildv (q := 19) (z := S.2.1 48 (i : Int)) dX7_waiting_18 rfl ⟨by decide, rfl, rfl⟩ (by omega) (by omega) rfl ?_
    refine g_iconst (q := 20) dX7_waiting_19 rfl ⟨by decide, by decide⟩ ?_
    refine g_icmp_ne (t := 27) (q := 23) dX7_waiting_20 (by decide) rfl (fun h20 => ?_) (fun h20 => ?_)
    · refine g_iconst (q := 28) dX7_waiting_27 rfl ⟨by decide, by decide⟩ ?_
      refine g_iadd (q := 29) dX7_waiting_28 rfl (by constructor <;> omega) ?_
      refine g_istore_n (i := 1) (q := 30) dX7_waiting_29 rfl rfl (by decide) ?_
      refine g_iinc (q := 33) (i := 2) (n := 1) dX7_waiting_30 rfl rfl (by constructor <;> omega) ?_
      refine g_goto (q := 0) (t := 4) dX7_waiting_33 (by decide) ?_
      exact ih (i + 1) _ (by omega) (by rw [y_cw_s]; split <;> omega)
    · refine g_iconst (q := 24) dX7_waiting_23 rfl ⟨by decide, by decide⟩ ?_
      refine g_goto (q := 0) (t := 28) dX7_waiting_24 (by decide) ?_
      refine g_iadd (q := 29) dX7_waiting_28 rfl (by constructor <;> omega) ?_
      refine g_istore_n (i := 1) (q := 30) dX7_waiting_29 rfl rfl (by decide) ?_
      refine g_iinc (q := 33) (i := 2) (n := 1) dX7_waiting_30 rfl rfl (by constructor <;> omega) ?_
      refine g_goto (q := 0) (t := 4) dX7_waiting_33 (by decide) ?_
      exact ih (i + 1) _ (by omega) (by rw [y_cw_s]; split <;> omega)
theorem t_waiting {S : zS}  {c : Nat} (hc : S.1 7 = c) (h60 : c ≤ 60) : z_Fn mX7_waiting [zR 7] S (some (zI (y_cw S  c))) S := by
  refine z_enter (by decide +kernel) rfl (z_n1 trivial z_n0) (Nat.le_of_ble_eq_true rfl) ?_
  refine g_iconst (q := 1) dX7_waiting_0 rfl ⟨by decide, by decide⟩ ?_
  refine g_istore_n (i := 1) (q := 2) dX7_waiting_1 rfl rfl (by decide) ?_
  refine g_iconst (q := 3) dX7_waiting_2 rfl ⟨by decide, by decide⟩ ?_
  refine g_istore_n (i := 2) (q := 4) dX7_waiting_3 rfl rfl (by decide) ?_
  exact l_X7_waiting (zz := 0) hc h60 ⟨rfl, rfl⟩ c 0 0 (by omega) rfl
def y_cwa (S : zS) (m : Int) (c : Nat) : Nat := z_ct (fun o => decide (S.2.1 48 o = 1 ∧ S.2.1 53 o = m)) c
theorem y_cwa_s (S : zS) (m : Int) (i : Nat) : y_cwa S m (i + 1) = y_cwa S m i + if S.2.1 48 i = 1 ∧ S.2.1 53 i = m then 1 else 0 := by
  unfold y_cwa
  rw [z_ct]
  simp
theorem y_cwa_le (S : zS) (m : Int) (i : Nat) : y_cwa S m i ≤ i := z_ct_le _ _
theorem l_X7_waitingAt {Q : zQ} {S : zS} {m : Int} {c : Nat} (hc : S.1 7 = c) (h60 : c ≤ 60) (hQ : Q (.ok (some (zI (y_cwa S m c)))) S) : ∀ (k i : Nat) (w : Int), i + k = c → w = y_cwa S m i → z_G mX7_waitingAt (z_F mX7_waitingAt Q) 0 4 [some (zR 7), some (zI m), some (zI w), some (zI (i : Int))] [] S := by
  intro k
  induction k with
  | zero =>
    intro i w hi hw
    have e : i = c := by omega
    subst e
    subst hw
    refine g_iload_n (i := 3) (q := 5) dX7_waitingAt_4 rfl rfl rfl ?_
    refine g_aload_n (i := 0) (q := 6) dX7_waitingAt_5 rfl rfl rfl ?_
    refine g_getv (q := 9) (z := S.1 7) dX7_waitingAt_6 rfl fk_X7_88 rfl rfl rfl ?_
    refine g_icmp_ge (t := 46) (q := 12) dX7_waitingAt_9 (by decide) rfl (fun h9 => ?_) (fun h9 => (False.elim (by omega)))
    refine g_iload_n (i := 2) (q := 47) dX7_waitingAt_46 rfl rfl rfl ?_
    exact g_ret dX7_waitingAt_47 rfl (by decide) hQ
  | succ k ih =>
    intro i w hi hw
    have hle := y_cwa_le S m i
    have hlt : (i : Int) < S.1 7 := by omega
    refine g_iload_n (i := 3) (q := 5) dX7_waitingAt_4 rfl rfl rfl ?_
    refine g_aload_n (i := 0) (q := 6) dX7_waitingAt_5 rfl rfl rfl ?_
    refine g_getv (q := 9) (z := S.1 7) dX7_waitingAt_6 rfl fk_X7_88 rfl rfl rfl ?_
    refine g_icmp_ge (t := 46) (q := 12) dX7_waitingAt_9 (by decide) rfl (fun h9 => (False.elim (by omega))) (fun h9 => ?_)
    refine g_iload_n (i := 2) (q := 13) dX7_waitingAt_12 rfl rfl rfl ?_
    refine g_aload_n (i := 0) (q := 14) dX7_waitingAt_13 rfl rfl rfl ?_
    refine g_getr (q := 17) dX7_waitingAt_14 rfl fk_X7_35 rfl rfl ?_
    refine g_iload_n (i := 3) (q := 18) dX7_waitingAt_17 rfl rfl rfl ?_
    refine g_ildv (q := 19) (z := S.2.1 48 (i : Int)) dX7_waitingAt_18 rfl ⟨by decide, rfl, rfl⟩ (by omega) (by omega) rfl ?_
    refine g_iconst (q := 20) dX7_waitingAt_19 rfl ⟨by decide, by decide⟩ ?_
    refine g_icmp_ne (t := 37) (q := 23) dX7_waitingAt_20 (by decide) rfl (fun h20 => ?_) (fun h20 => ?_)
    · refine g_iconst (q := 38) dX7_waitingAt_37 rfl ⟨by decide, by decide⟩ ?_
      refine g_iadd (q := 39) dX7_waitingAt_38 rfl (by constructor <;> omega) ?_
      refine g_istore_n (i := 2) (q := 40) dX7_waitingAt_39 rfl rfl (by decide) ?_
      refine g_iinc (q := 43) (i := 3) (n := 1) dX7_waitingAt_40 rfl rfl (by constructor <;> omega) ?_
      refine g_goto (q := 0) (t := 4) dX7_waitingAt_43 (by decide) ?_
      exact ih (i + 1) _ (by omega) (by rw [y_cwa_s]; split <;> omega)
    · refine g_aload_n (i := 0) (q := 24) dX7_waitingAt_23 rfl rfl rfl ?_
      refine g_getr (q := 27) dX7_waitingAt_24 rfl fk_X7_50 rfl rfl ?_
      refine g_iload_n (i := 3) (q := 28) dX7_waitingAt_27 rfl rfl rfl ?_
      refine g_ildv (q := 29) (z := S.2.1 53 (i : Int)) dX7_waitingAt_28 rfl ⟨by decide, rfl, rfl⟩ (by omega) (by omega) rfl ?_
      refine g_iload_n (i := 1) (q := 30) dX7_waitingAt_29 rfl rfl rfl ?_
      refine g_icmp_ne (t := 37) (q := 33) dX7_waitingAt_30 (by decide) rfl (fun h30 => ?_) (fun h30 => ?_)
      · refine g_iconst (q := 38) dX7_waitingAt_37 rfl ⟨by decide, by decide⟩ ?_
        refine g_iadd (q := 39) dX7_waitingAt_38 rfl (by constructor <;> omega) ?_
        refine g_istore_n (i := 2) (q := 40) dX7_waitingAt_39 rfl rfl (by decide) ?_
        refine g_iinc (q := 43) (i := 3) (n := 1) dX7_waitingAt_40 rfl rfl (by constructor <;> omega) ?_
        refine g_goto (q := 0) (t := 4) dX7_waitingAt_43 (by decide) ?_
        exact ih (i + 1) _ (by omega) (by rw [y_cwa_s]; split <;> omega)
      · refine g_iconst (q := 34) dX7_waitingAt_33 rfl ⟨by decide, by decide⟩ ?_
        refine g_goto (q := 0) (t := 38) dX7_waitingAt_34 (by decide) ?_
        refine g_iadd (q := 39) dX7_waitingAt_38 rfl (by constructor <;> omega) ?_
        refine g_istore_n (i := 2) (q := 40) dX7_waitingAt_39 rfl rfl (by decide) ?_
        refine g_iinc (q := 43) (i := 3) (n := 1) dX7_waitingAt_40 rfl rfl (by constructor <;> omega) ?_
        refine g_goto (q := 0) (t := 4) dX7_waitingAt_43 (by decide) ?_
        exact ih (i + 1) _ (by omega) (by rw [y_cwa_s]; split <;> omega)
theorem t_waitingAt {S : zS} {m : Int} {c : Nat} (hc : S.1 7 = c) (h60 : c ≤ 60) : z_Fn mX7_waitingAt [zR 7, zI m] S (some (zI (y_cwa S m c))) S := by
  refine z_enter (by decide +kernel) rfl (z_n1 trivial (z_n1 trivial z_n0)) (Nat.le_of_ble_eq_true rfl) ?_
  refine g_iconst (q := 1) dX7_waitingAt_0 rfl ⟨by decide, by decide⟩ ?_
  refine g_istore_n (i := 2) (q := 2) dX7_waitingAt_1 rfl rfl (by decide) ?_
  refine g_iconst (q := 3) dX7_waitingAt_2 rfl ⟨by decide, by decide⟩ ?_
  refine g_istore_n (i := 3) (q := 4) dX7_waitingAt_3 rfl rfl (by decide) ?_
  exact l_X7_waitingAt hc h60 ⟨rfl, rfl⟩ c 0 0 (by omega) rfl
/-- the last order that waits for n -/
def y_wf (S : zS) (n : Int) : Nat → Int
  | 0 => -1
  | i + 1 => if S.2.1 48 i = 1 ∧ S.2.1 50 i = n then (i : Int) else y_wf S n i
theorem l_X7_waitingFor {Q : zQ} {S : zS} {n : Int} {c : Nat} (hc : S.1 7 = c) (h60 : c ≤ 60) (hQ : Q (.ok (some (zI (y_wf S n c)))) S) : ∀ (k i : Nat) (w : Int), i + k = c → w = y_wf S n i → z_G mX7_waitingFor (z_F mX7_waitingFor Q) 0 4 [some (zR 7), some (zI n), some (zI w), some (zI (i : Int))] [] S := by
  intro k
  induction k with
  | zero =>
    intro i w hi hw
    have e : i = c := by omega
    subst e
    subst hw
    refine g_iload_n (i := 3) (q := 5) dX7_waitingFor_4 rfl rfl rfl ?_
    refine g_aload_n (i := 0) (q := 6) dX7_waitingFor_5 rfl rfl rfl ?_
    refine g_getv (q := 9) (z := S.1 7) dX7_waitingFor_6 rfl fk_X7_88 rfl rfl rfl ?_
    refine g_icmp_ge (t := 44) (q := 12) dX7_waitingFor_9 (by decide) rfl (fun h9 => ?_) (fun h9 => (False.elim (by omega)))
    refine g_iload_n (i := 2) (q := 45) dX7_waitingFor_44 rfl rfl rfl ?_
    exact g_ret dX7_waitingFor_45 rfl (by decide) hQ
  | succ k ih =>
    intro i w hi hw
    have hlt : (i : Int) < S.1 7 := by omega
    refine g_iload_n (i := 3) (q := 5) dX7_waitingFor_4 rfl rfl rfl ?_
    refine g_aload_n (i := 0) (q := 6) dX7_waitingFor_5 rfl rfl rfl ?_
    refine g_getv (q := 9) (z := S.1 7) dX7_waitingFor_6 rfl fk_X7_88 rfl rfl rfl ?_
    refine g_icmp_ge (t := 44) (q := 12) dX7_waitingFor_9 (by decide) rfl (fun h9 => (False.elim (by omega))) (fun h9 => ?_)
    refine g_aload_n (i := 0) (q := 13) dX7_waitingFor_12 rfl rfl rfl ?_
    refine g_getr (q := 16) dX7_waitingFor_13 rfl fk_X7_35 rfl rfl ?_
    refine g_iload_n (i := 3) (q := 17) dX7_waitingFor_16 rfl rfl rfl ?_
    refine g_ildv (q := 18) (z := S.2.1 48 (i : Int)) dX7_waitingFor_17 rfl ⟨by decide, rfl, rfl⟩ (by omega) (by omega) rfl ?_
    refine g_iconst (q := 19) dX7_waitingFor_18 rfl ⟨by decide, by decide⟩ ?_
    refine g_icmp_ne (t := 36) (q := 22) dX7_waitingFor_19 (by decide) rfl (fun h19 => ?_) (fun h19 => ?_)
    · refine g_iload_n (i := 2) (q := 37) dX7_waitingFor_36 rfl rfl rfl ?_
      refine g_istore_n (i := 2) (q := 38) dX7_waitingFor_37 rfl rfl (by decide) ?_
      refine g_iinc (q := 41) (i := 3) (n := 1) dX7_waitingFor_38 rfl rfl (by constructor <;> omega) ?_
      refine g_goto (q := 0) (t := 4) dX7_waitingFor_41 (by decide) ?_
      exact ih (i + 1) _ (by omega) (by rw [y_wf]; split <;> omega)
    · refine g_aload_n (i := 0) (q := 23) dX7_waitingFor_22 rfl rfl rfl ?_
      refine g_getr (q := 26) dX7_waitingFor_23 rfl fk_X7_41 rfl rfl ?_
      refine g_iload_n (i := 3) (q := 27) dX7_waitingFor_26 rfl rfl rfl ?_
      refine g_ildv (q := 28) (z := S.2.1 50 (i : Int)) dX7_waitingFor_27 rfl ⟨by decide, rfl, rfl⟩ (by omega) (by omega) rfl ?_
      refine g_iload_n (i := 1) (q := 29) dX7_waitingFor_28 rfl rfl rfl ?_
      refine g_icmp_ne (t := 36) (q := 32) dX7_waitingFor_29 (by decide) rfl (fun h29 => ?_) (fun h29 => ?_)
      · refine g_iload_n (i := 2) (q := 37) dX7_waitingFor_36 rfl rfl rfl ?_
        refine g_istore_n (i := 2) (q := 38) dX7_waitingFor_37 rfl rfl (by decide) ?_
        refine g_iinc (q := 41) (i := 3) (n := 1) dX7_waitingFor_38 rfl rfl (by constructor <;> omega) ?_
        refine g_goto (q := 0) (t := 4) dX7_waitingFor_41 (by decide) ?_
        exact ih (i + 1) _ (by omega) (by rw [y_wf]; split <;> omega)
      · refine g_iload_n (i := 3) (q := 33) dX7_waitingFor_32 rfl rfl rfl ?_
        refine g_goto (q := 0) (t := 37) dX7_waitingFor_33 (by decide) ?_
        refine g_istore_n (i := 2) (q := 38) dX7_waitingFor_37 rfl rfl (by decide) ?_
        refine g_iinc (q := 41) (i := 3) (n := 1) dX7_waitingFor_38 rfl rfl (by constructor <;> omega) ?_
        refine g_goto (q := 0) (t := 4) dX7_waitingFor_41 (by decide) ?_
        exact ih (i + 1) _ (by omega) (by rw [y_wf]; split <;> omega)
theorem t_waitingFor {S : zS} {n : Int} {c : Nat} (hc : S.1 7 = c) (h60 : c ≤ 60) : z_Fn mX7_waitingFor [zR 7, zI n] S (some (zI (y_wf S n c))) S := by
  refine z_enter (by decide +kernel) rfl (z_n1 trivial (z_n1 trivial z_n0)) (Nat.le_of_ble_eq_true rfl) ?_
  refine g_iconst (q := 1) dX7_waitingFor_0 rfl ⟨by decide, by decide⟩ ?_
  refine g_istore_n (i := 2) (q := 2) dX7_waitingFor_1 rfl rfl (by decide) ?_
  refine g_iconst (q := 3) dX7_waitingFor_2 rfl ⟨by decide, by decide⟩ ?_
  refine g_istore_n (i := 3) (q := 4) dX7_waitingFor_3 rfl rfl (by decide) ?_
  exact l_X7_waitingFor hc h60 ⟨rfl, rfl⟩ c 0 (-1) (by omega) rfl
theorem y_wf_rng {S : zS} {n : Int} : ∀ c : Nat, -1 ≤ y_wf S n c ∧ y_wf S n c < c
  | 0 => by simp [y_wf]
  | c + 1 => by
    have h := y_wf_rng (S := S) (n := n) c
    rw [y_wf]
    split <;> omega
def y_chg (S : zS) (n t : Int) : zS := z_sS (z_sA (z_sA (z_sA S 55 (S.1 8) (S.1 6)) 56 (S.1 8) n) 57 (S.1 8) t) 8 (S.1 8 + 1)
theorem t_changes {S : zS} {n t : Int} (h : 0 ≤ S.1 8 ∧ S.1 8 < 4000) : z_Fn mX7_changes [zR 7, zI n, zI t] S none (y_chg S n t) := by
  refine z_enter (by decide +kernel) rfl (z_n1 trivial (z_n1 trivial (z_n1 trivial z_n0))) (Nat.le_of_ble_eq_true rfl) ?_
  refine g_aload_n (i := 0) (q := 1) dX7_changes_0 rfl rfl rfl ?_
  refine g_getr (q := 4) dX7_changes_1 rfl fk_X7_56 rfl rfl ?_
  refine g_aload_n (i := 0) (q := 5) dX7_changes_4 rfl rfl rfl ?_
  refine g_getv (q := 8) (z := S.1 8) dX7_changes_5 rfl fk_X7_117 rfl rfl rfl ?_
  refine g_aload_n (i := 0) (q := 9) dX7_changes_8 rfl rfl rfl ?_
  refine g_getv (q := 12) (z := S.1 6) dX7_changes_9 rfl fk_X7_91 rfl rfl rfl ?_
  refine g_iast (q := 13) dX7_changes_12 rfl ⟨by decide, rfl, rfl⟩ (by omega) (by omega) ?_
  refine g_aload_n (i := 0) (q := 14) dX7_changes_13 rfl rfl rfl ?_
  refine g_getr (q := 17) dX7_changes_14 rfl fk_X7_59 rfl rfl ?_
  refine g_aload_n (i := 0) (q := 18) dX7_changes_17 rfl rfl rfl ?_
  refine g_getv (q := 21) (z := S.1 8) dX7_changes_18 rfl fk_X7_117 rfl rfl rfl ?_
  refine g_iload_n (i := 1) (q := 22) dX7_changes_21 rfl rfl rfl ?_
  refine g_iast (q := 23) dX7_changes_22 rfl ⟨by decide, rfl, rfl⟩ (by omega) (by omega) ?_
  refine g_aload_n (i := 0) (q := 24) dX7_changes_23 rfl rfl rfl ?_
  refine g_getr (q := 27) dX7_changes_24 rfl fk_X7_62 rfl rfl ?_
  refine g_aload_n (i := 0) (q := 28) dX7_changes_27 rfl rfl rfl ?_
  refine g_getv (q := 31) (z := S.1 8) dX7_changes_28 rfl fk_X7_117 rfl rfl rfl ?_
  refine g_iload_n (i := 2) (q := 32) dX7_changes_31 rfl rfl rfl ?_
  refine g_iast (q := 33) dX7_changes_32 rfl ⟨by decide, rfl, rfl⟩ (by omega) (by omega) ?_
  refine g_aload_n (i := 0) (q := 34) dX7_changes_33 rfl rfl rfl ?_
  refine g_dup (q := 35) dX7_changes_34 rfl trivial ?_
  refine g_getv (q := 38) (z := S.1 8) dX7_changes_35 rfl fk_X7_117 rfl rfl rfl ?_
  refine g_iconst (q := 39) dX7_changes_38 rfl ⟨by decide, by decide⟩ ?_
  refine g_iadd (q := 40) dX7_changes_39 rfl (by constructor <;> omega) ?_
  refine g_put (q := 43) dX7_changes_40 rfl fk_X7_117 fp_7_18 rfl rfl ?_
  exact g_retv dX7_changes_43 rfl (by decide) (by first | exact ⟨rfl, rfl⟩ | (exfalso; omega))
theorem t_asksNumber_t {S : zS} {n : Int} (h : 0 ≤ n ∧ n < 200) : z_Fn mX7_asksNumber [zR 7, zI n] S (some (zI 1)) (z_sS S 5 0) := by
  refine z_enter (by decide +kernel) rfl (z_n1 trivial (z_n1 trivial z_n0)) (Nat.le_of_ble_eq_true rfl) ?_
  refine g_aload_n (i := 0) (q := 1) dX7_asksNumber_0 rfl rfl rfl ?_
  refine g_iload_n (i := 1) (q := 2) dX7_asksNumber_1 rfl rfl rfl ?_
  refine g_fnS (as := [zI n]) (q := 5) (u' := 0) dX7_asksNumber_2 rfl ck_X7_108 rfl rfl (Nat.le_of_ble_eq_true rfl) (by decide) rfl (by decide) (t_isNumber_t h) rfl ?_
  refine g_if_ne (t := 12) (q := 8) dX7_asksNumber_5 (by decide) rfl (fun h5 => ?_) (fun h5 => (False.elim (by omega)))
  refine g_iconst (q := 13) dX7_asksNumber_12 rfl ⟨by decide, by decide⟩ ?_
  refine g_put (q := 16) dX7_asksNumber_13 rfl fk_X7_80 fp_7_0 rfl rfl ?_
  refine g_aload_n (i := 0) (q := 17) dX7_asksNumber_16 rfl rfl rfl ?_
  refine g_getv (q := 20) (z := 0) dX7_asksNumber_17 rfl fk_X7_80 rfl rfl rfl ?_
  refine g_if_ne (t := 27) (q := 23) dX7_asksNumber_20 (by decide) rfl (fun h20 => (False.elim (by omega))) (fun h20 => ?_)
  refine g_iconst (q := 24) dX7_asksNumber_23 rfl ⟨by decide, by decide⟩ ?_
  refine g_goto (q := 0) (t := 28) dX7_asksNumber_24 (by decide) ?_
  exact g_retz dX7_asksNumber_28 rfl (by omega) (by decide) (by first | exact ⟨rfl, rfl⟩ | (exfalso; omega))
theorem t_asksNumber_f {S : zS} {n : Int} (h : ¬ (0 ≤ n ∧ n < 200)) : z_Fn mX7_asksNumber [zR 7, zI n] S (some (zI 0)) (z_sS S 5 1) := by
  refine z_enter (by decide +kernel) rfl (z_n1 trivial (z_n1 trivial z_n0)) (Nat.le_of_ble_eq_true rfl) ?_
  refine g_aload_n (i := 0) (q := 1) dX7_asksNumber_0 rfl rfl rfl ?_
  refine g_iload_n (i := 1) (q := 2) dX7_asksNumber_1 rfl rfl rfl ?_
  refine g_fnS (as := [zI n]) (q := 5) (u' := 0) dX7_asksNumber_2 rfl ck_X7_108 rfl rfl (Nat.le_of_ble_eq_true rfl) (by decide) rfl (by decide) (t_isNumber_f h) rfl ?_
  refine g_if_ne (t := 12) (q := 8) dX7_asksNumber_5 (by decide) rfl (fun h5 => (False.elim (by omega))) (fun h5 => ?_)
  refine g_iconst (q := 9) dX7_asksNumber_8 rfl ⟨by decide, by decide⟩ ?_
  refine g_goto (q := 0) (t := 13) dX7_asksNumber_9 (by decide) ?_
  refine g_put (q := 16) dX7_asksNumber_13 rfl fk_X7_80 fp_7_0 rfl rfl ?_
  refine g_aload_n (i := 0) (q := 17) dX7_asksNumber_16 rfl rfl rfl ?_
  refine g_getv (q := 20) (z := 1) dX7_asksNumber_17 rfl fk_X7_80 rfl rfl rfl ?_
  refine g_if_ne (t := 27) (q := 23) dX7_asksNumber_20 (by decide) rfl (fun h20 => ?_) (fun h20 => (False.elim (by omega)))
  refine g_iconst (q := 28) dX7_asksNumber_27 rfl ⟨by decide, by decide⟩ ?_
  exact g_retz dX7_asksNumber_28 rfl (by omega) (by decide) (by first | exact ⟨rfl, rfl⟩ | (exfalso; omega))
theorem t_isWindow_t {S : zS} {m : Int} (h0 : 0 ≤ m) (h : m % 100 < 20) : z_Fn mX7_isWindow [zI m] S (some (zI 1)) S := by
  refine z_enter (by decide +kernel) rfl (z_n1 trivial z_n0) (Nat.le_of_ble_eq_true rfl) ?_
  refine g_iload_n (i := 0) (q := 1) dX7_isWindow_0 rfl rfl rfl ?_
  refine g_bipush (q := 3) dX7_isWindow_1 rfl ⟨by decide, by decide⟩ (by decide) ?_
  refine g_irem (q := 4) dX7_isWindow_3 rfl (by omega) (by omega) ?_
  refine g_bipush (q := 6) dX7_isWindow_4 rfl ⟨by decide, by decide⟩ (by decide) ?_
  refine g_icmp_ge (t := 13) (q := 9) dX7_isWindow_6 (by decide) rfl (fun h6 => ?_) (fun h6 => ?_)
  · refine g_iconst (q := 14) dX7_isWindow_13 rfl ⟨by decide, by decide⟩ ?_
    exact g_retz dX7_isWindow_14 rfl (by omega) (by decide) (by first | exact ⟨rfl, rfl⟩ | (exfalso; omega))
  · refine g_iconst (q := 10) dX7_isWindow_9 rfl ⟨by decide, by decide⟩ ?_
    refine g_goto (q := 0) (t := 14) dX7_isWindow_10 (by decide) ?_
    exact g_retz dX7_isWindow_14 rfl (by omega) (by decide) (by first | exact ⟨rfl, rfl⟩ | (exfalso; omega))
theorem t_isWindow_f {S : zS} {m : Int} (h0 : 0 ≤ m) (h : ¬ m % 100 < 20) : z_Fn mX7_isWindow [zI m] S (some (zI 0)) S := by
  refine z_enter (by decide +kernel) rfl (z_n1 trivial z_n0) (Nat.le_of_ble_eq_true rfl) ?_
  refine g_iload_n (i := 0) (q := 1) dX7_isWindow_0 rfl rfl rfl ?_
  refine g_bipush (q := 3) dX7_isWindow_1 rfl ⟨by decide, by decide⟩ (by decide) ?_
  refine g_irem (q := 4) dX7_isWindow_3 rfl (by omega) (by omega) ?_
  refine g_bipush (q := 6) dX7_isWindow_4 rfl ⟨by decide, by decide⟩ (by decide) ?_
  refine g_icmp_ge (t := 13) (q := 9) dX7_isWindow_6 (by decide) rfl (fun h6 => ?_) (fun h6 => ?_)
  · refine g_iconst (q := 14) dX7_isWindow_13 rfl ⟨by decide, by decide⟩ ?_
    exact g_retz dX7_isWindow_14 rfl (by omega) (by decide) (by first | exact ⟨rfl, rfl⟩ | (exfalso; omega))
  · refine g_iconst (q := 10) dX7_isWindow_9 rfl ⟨by decide, by decide⟩ ?_
    refine g_goto (q := 0) (t := 14) dX7_isWindow_10 (by decide) ?_
    exact g_retz dX7_isWindow_14 rfl (by omega) (by decide) (by first | exact ⟨rfl, rfl⟩ | (exfalso; omega))
def y_ct (S : zS) (n f o : Int) : zS := y_chg (z_sA (z_sA S 42 n f) 47 n o) n (if S.2.1 40 (n / 10) = f then 6 else f)
theorem t_comesTo {S : zS} {n f o : Int} (hn : 0 ≤ n ∧ n < 200) (h : 0 ≤ S.1 8 ∧ S.1 8 < 4000) : z_Fn mX7_comesTo [zR 7, zI n, zI f, zI o] S none (y_ct S n f o) := by
  refine z_enter (by decide +kernel) rfl (z_n1 trivial (z_n1 trivial (z_n1 trivial (z_n1 trivial z_n0)))) (Nat.le_of_ble_eq_true rfl) ?_
  unfold y_ct
  by_cases hh : S.2.1 40 (n / 10) = f
  · rw [if_pos hh]
    refine g_aload_n (i := 0) (q := 1) dX7_comesTo_0 rfl rfl rfl ?_
    refine g_getr (q := 4) dX7_comesTo_1 rfl fk_X7_17 rfl rfl ?_
    refine g_iload_n (i := 1) (q := 5) dX7_comesTo_4 rfl rfl rfl ?_
    refine g_iload_n (i := 2) (q := 6) dX7_comesTo_5 rfl rfl rfl ?_
    refine g_iast (q := 7) dX7_comesTo_6 rfl ⟨by decide, rfl, rfl⟩ (by omega) (by omega) ?_
    refine g_aload_n (i := 0) (q := 8) dX7_comesTo_7 rfl rfl rfl ?_
    refine g_getr (q := 11) dX7_comesTo_8 rfl fk_X7_32 rfl rfl ?_
    refine g_iload_n (i := 1) (q := 12) dX7_comesTo_11 rfl rfl rfl ?_
    refine g_iload_n (i := 3) (q := 13) dX7_comesTo_12 rfl rfl rfl ?_
    refine g_iast (q := 14) dX7_comesTo_13 rfl ⟨by decide, rfl, rfl⟩ (by omega) (by omega) ?_
    refine g_aload_n (i := 0) (q := 15) dX7_comesTo_14 rfl rfl rfl ?_
    refine g_iload_n (i := 1) (q := 16) dX7_comesTo_15 rfl rfl rfl ?_
    refine g_iload_n (i := 2) (q := 17) dX7_comesTo_16 rfl rfl rfl ?_
    refine g_aload_n (i := 0) (q := 18) dX7_comesTo_17 rfl rfl rfl ?_
    refine g_iload_n (i := 1) (q := 19) dX7_comesTo_18 rfl rfl rfl ?_
    refine g_fnV (as := [zI n]) (q := 22) (u' := 0) dX7_comesTo_19 rfl ck_X7_114 rfl rfl rfl (Nat.le_of_ble_eq_true rfl) (by decide) rfl (by decide) (t_holderOf hn) rfl ?_
    refine g_top (z := S.2.1 40 (n / 10)) rfl ?_
    refine g_icmp_ne (t := 30) (q := 25) dX7_comesTo_22 (by decide) rfl (fun h22 => (False.elim (by omega))) (fun h22 => ?_)
    refine g_bipush (q := 27) dX7_comesTo_25 rfl ⟨by decide, by decide⟩ (by decide) ?_
    refine g_goto (q := 0) (t := 31) dX7_comesTo_27 (by decide) ?_
    refine g_fnV (as := [zI n, zI 6]) (q := 34) (u' := 0) dX7_comesTo_31 rfl ck_X7_120 rfl rfl rfl (Nat.le_of_ble_eq_true rfl) (by decide) rfl (by decide) (t_changes (S := z_sA (z_sA S 42 n f) 47 n o) h) rfl ?_
    exact g_retv dX7_comesTo_34 rfl (by decide) (by first | exact ⟨rfl, rfl⟩ | (exfalso; omega))
  · rw [if_neg hh]
    refine g_aload_n (i := 0) (q := 1) dX7_comesTo_0 rfl rfl rfl ?_
    refine g_getr (q := 4) dX7_comesTo_1 rfl fk_X7_17 rfl rfl ?_
    refine g_iload_n (i := 1) (q := 5) dX7_comesTo_4 rfl rfl rfl ?_
    refine g_iload_n (i := 2) (q := 6) dX7_comesTo_5 rfl rfl rfl ?_
    refine g_iast (q := 7) dX7_comesTo_6 rfl ⟨by decide, rfl, rfl⟩ (by omega) (by omega) ?_
    refine g_aload_n (i := 0) (q := 8) dX7_comesTo_7 rfl rfl rfl ?_
    refine g_getr (q := 11) dX7_comesTo_8 rfl fk_X7_32 rfl rfl ?_
    refine g_iload_n (i := 1) (q := 12) dX7_comesTo_11 rfl rfl rfl ?_
    refine g_iload_n (i := 3) (q := 13) dX7_comesTo_12 rfl rfl rfl ?_
    refine g_iast (q := 14) dX7_comesTo_13 rfl ⟨by decide, rfl, rfl⟩ (by omega) (by omega) ?_
    refine g_aload_n (i := 0) (q := 15) dX7_comesTo_14 rfl rfl rfl ?_
    refine g_iload_n (i := 1) (q := 16) dX7_comesTo_15 rfl rfl rfl ?_
    refine g_iload_n (i := 2) (q := 17) dX7_comesTo_16 rfl rfl rfl ?_
    refine g_aload_n (i := 0) (q := 18) dX7_comesTo_17 rfl rfl rfl ?_
    refine g_iload_n (i := 1) (q := 19) dX7_comesTo_18 rfl rfl rfl ?_
    refine g_fnV (as := [zI n]) (q := 22) (u' := 0) dX7_comesTo_19 rfl ck_X7_114 rfl rfl rfl (Nat.le_of_ble_eq_true rfl) (by decide) rfl (by decide) (t_holderOf hn) rfl ?_
    refine g_top (z := S.2.1 40 (n / 10)) rfl ?_
    refine g_icmp_ne (t := 30) (q := 25) dX7_comesTo_22 (by decide) rfl (fun h22 => ?_) (fun h22 => (False.elim (by omega)))
    refine g_iload_n (i := 2) (q := 31) dX7_comesTo_30 rfl rfl rfl ?_
    refine g_fnV (as := [zI n, zI f]) (q := 34) (u' := 0) dX7_comesTo_31 rfl ck_X7_120 rfl rfl rfl (Nat.le_of_ble_eq_true rfl) (by decide) rfl (by decide) (t_changes (S := z_sA (z_sA S 42 n f) 47 n o) h) rfl ?_
    exact g_retv dX7_comesTo_34 rfl (by decide) (by first | exact ⟨rfl, rfl⟩ | (exfalso; omega))
def y_pay (S : zS) (p t m : Int) : zS := z_sA (z_sA S 61 p (z_wr (S.2.1 61 p - m))) 61 t (z_wr ((z_sA S 61 p (z_wr (S.2.1 61 p - m))).2.1 61 t + m))
theorem t_pays {S : zS} {p t m : Int} (hp : 0 ≤ p ∧ p < 6) (ht : 0 ≤ t ∧ t < 6) : z_Fn mX7_pays [zR 7, zI p, zI t, zI m] S none (y_pay S p t m) := by
  refine z_enter (by decide +kernel) rfl (z_n1 trivial (z_n1 trivial (z_n1 trivial (z_n1 trivial z_n0)))) (Nat.le_of_ble_eq_true rfl) ?_
  refine g_aload_n (i := 0) (q := 1) dX7_pays_0 rfl rfl rfl ?_
  refine g_getr (q := 4) dX7_pays_1 rfl fk_X7_74 rfl rfl ?_
  refine g_iload_n (i := 1) (q := 5) dX7_pays_4 rfl rfl rfl ?_
  refine g_dup2 (q := 6) dX7_pays_5 rfl trivial trivial ?_
  refine g_ildv (q := 7) (z := S.2.1 61 p) dX7_pays_6 rfl ⟨by decide, rfl, rfl⟩ (by omega) (by omega) rfl ?_
  refine g_iload_n (i := 3) (q := 8) dX7_pays_7 rfl rfl rfl ?_
  refine g_isubw (q := 9) dX7_pays_8 rfl ?_
  refine g_iast (q := 10) dX7_pays_9 rfl ⟨by decide, rfl, rfl⟩ (by omega) (by omega) ?_
  refine g_aload_n (i := 0) (q := 11) dX7_pays_10 rfl rfl rfl ?_
  refine g_getr (q := 14) dX7_pays_11 rfl fk_X7_74 rfl rfl ?_
  refine g_iload_n (i := 2) (q := 15) dX7_pays_14 rfl rfl rfl ?_
  refine g_dup2 (q := 16) dX7_pays_15 rfl trivial trivial ?_
  refine g_ildv (q := 17) (z := _) dX7_pays_16 rfl ⟨by decide, rfl, rfl⟩ (by omega) (by omega) rfl ?_
  refine g_iload_n (i := 3) (q := 18) dX7_pays_17 rfl rfl rfl ?_
  refine g_iaddw (q := 19) dX7_pays_18 rfl ?_
  refine g_iast (q := 20) dX7_pays_19 rfl ⟨by decide, rfl, rfl⟩ (by omega) (by omega) ?_
  exact g_retv dX7_pays_20 rfl (by decide) (by first | exact ⟨rfl, rfl⟩ | (exfalso; omega))
def y_rr (S : zS) (c : Nat) (f n t m : Int) : Int :=
  if S.2.1 42 n = -1 then 1 else if S.2.1 42 n = f then 2 else if S.2.1 43 n = t then (if y_wf S n c = -1 then (if S.1 6 - S.2.1 45 n < 50 then 5 else if m % 100 < 20 then (if y_cwa S m c < 3 then 0 else 7) else 6) else 4) else 3
theorem t_reason {S : zS} {f n t m : Int} {c : Nat} (hc : S.1 7 = c) (h60 : c ≤ 60) (hM : yM S) (hn : 0 ≤ n ∧ n < 200) (hm : 0 ≤ m) : z_Fn mX7_reason [zR 7, zI f, zI n, zI t, zI m] S (some (zI (y_rr S c f n t m))) S := by
  refine z_enter (by decide +kernel) rfl (z_n1 trivial (z_n1 trivial (z_n1 trivial (z_n1 trivial (z_n1 trivial z_n0))))) (Nat.le_of_ble_eq_true rfl) ?_
  refine g_aload_n (i := 0) (q := 1) dX7_reason_0 rfl rfl rfl ?_
  refine g_getr (q := 4) dX7_reason_1 rfl fk_X7_17 rfl rfl ?_
  refine g_iload_n (i := 2) (q := 5) dX7_reason_4 rfl rfl rfl ?_
  refine g_ildv (q := 6) (z := S.2.1 42 n) dX7_reason_5 rfl ⟨by decide, rfl, rfl⟩ (by omega) (by omega) rfl ?_
  refine g_iconst (q := 7) dX7_reason_6 rfl ⟨by decide, by decide⟩ ?_
  refine g_icmp_ne (t := 12) (q := 10) dX7_reason_7 (by decide) rfl (fun h7 => ?_) (fun h7 => ?_)
  · refine g_aload_n (i := 0) (q := 13) dX7_reason_12 rfl rfl rfl ?_
    refine g_getr (q := 16) dX7_reason_13 rfl fk_X7_17 rfl rfl ?_
    refine g_iload_n (i := 2) (q := 17) dX7_reason_16 rfl rfl rfl ?_
    refine g_ildv (q := 18) (z := S.2.1 42 n) dX7_reason_17 rfl ⟨by decide, rfl, rfl⟩ (by omega) (by omega) rfl ?_
    refine g_iload_n (i := 1) (q := 19) dX7_reason_18 rfl rfl rfl ?_
    refine g_icmp_ne (t := 24) (q := 22) dX7_reason_19 (by decide) rfl (fun h19 => ?_) (fun h19 => ?_)
    · refine g_aload_n (i := 0) (q := 25) dX7_reason_24 rfl rfl rfl ?_
      refine g_getr (q := 28) dX7_reason_25 rfl fk_X7_20 rfl rfl ?_
      refine g_iload_n (i := 2) (q := 29) dX7_reason_28 rfl rfl rfl ?_
      refine g_ildv (q := 30) (z := S.2.1 43 n) dX7_reason_29 rfl ⟨by decide, rfl, rfl⟩ (by omega) (by omega) rfl ?_
      refine g_iload_n (i := 3) (q := 31) dX7_reason_30 rfl rfl rfl ?_
      refine g_icmp_eq (t := 36) (q := 34) dX7_reason_31 (by decide) rfl (fun h31 => ?_) (fun h31 => ?_)
      · refine g_aload_n (i := 0) (q := 37) dX7_reason_36 rfl rfl rfl ?_
        refine g_iload_n (i := 2) (q := 38) dX7_reason_37 rfl rfl rfl ?_
        refine g_fnV (as := [zI n]) (q := 41) (u' := 0) dX7_reason_38 rfl ck_X7_123 rfl rfl rfl (Nat.le_of_ble_eq_true rfl) (by decide) rfl (by decide) (t_waitingFor hc h60) rfl ?_
        refine g_iconst (q := 42) dX7_reason_41 rfl ⟨by decide, by decide⟩ ?_
        refine g_icmp_eq (t := 47) (q := 45) dX7_reason_42 (by decide) rfl (fun h42 => ?_) (fun h42 => ?_)
        · refine g_aload_n (i := 0) (q := 48) dX7_reason_47 rfl rfl rfl ?_
          refine g_iload_n (i := 2) (q := 49) dX7_reason_48 rfl rfl rfl ?_
          by_cases c49 : (S).1 6 - (S).2.1 45 n < 50
          · refine g_fnV (as := [zI n]) (q := 52) (u' := 0) dX7_reason_49 rfl ck_X7_126 rfl rfl rfl (Nat.le_of_ble_eq_true rfl) (by decide) rfl (by decide) (t_isSilent_t hM (by omega) c49) rfl ?_
            refine g_if_eq (t := 59) (q := 55) dX7_reason_52 (by decide) rfl (fun h52 => (False.elim (by omega))) (fun h52 => ?_)
            refine g_iconst (q := 56) dX7_reason_55 rfl ⟨by decide, by decide⟩ ?_
            refine g_goto (q := 0) (t := 88) dX7_reason_56 (by decide) ?_
            exact g_ret dX7_reason_88 rfl (by decide) (by unfold y_rr; (repeat (first | rw [if_pos (by omega)] | rw [if_neg (by omega)])); exact ⟨rfl, rfl⟩)
          · refine g_fnV (as := [zI n]) (q := 52) (u' := 0) dX7_reason_49 rfl ck_X7_126 rfl rfl rfl (Nat.le_of_ble_eq_true rfl) (by decide) rfl (by decide) (t_isSilent_f hM (by omega) c49) rfl ?_
            refine g_if_eq (t := 59) (q := 55) dX7_reason_52 (by decide) rfl (fun h52 => ?_) (fun h52 => (False.elim (by omega)))
            refine g_iload (q := 61) dX7_reason_59 rfl rfl ?_
            by_cases c61 : m % 100 < 20
            · refine g_fnS (as := [zI m]) (q := 64) (u' := 0) dX7_reason_61 rfl ck_X7_129 rfl rfl (Nat.le_of_ble_eq_true rfl) (by decide) rfl (by decide) (t_isWindow_t (by omega) c61) rfl ?_
              refine g_if_ne (t := 72) (q := 67) dX7_reason_64 (by decide) rfl (fun h64 => ?_) (fun h64 => (False.elim (by omega)))
              refine g_aload_n (i := 0) (q := 73) dX7_reason_72 rfl rfl rfl ?_
              refine g_iload (q := 75) dX7_reason_73 rfl rfl ?_
              refine g_fnV (as := [zI m]) (q := 78) (u' := 0) dX7_reason_75 rfl ck_X7_132 rfl rfl rfl (Nat.le_of_ble_eq_true rfl) (by decide) rfl (by decide) (t_waitingAt hc h60) rfl ?_
              refine g_iconst (q := 79) dX7_reason_78 rfl ⟨by decide, by decide⟩ ?_
              refine g_icmp_lt (t := 87) (q := 82) dX7_reason_79 (by decide) rfl (fun h79 => ?_) (fun h79 => ?_)
              · refine g_iconst (q := 88) dX7_reason_87 rfl ⟨by decide, by decide⟩ ?_
                exact g_ret dX7_reason_88 rfl (by decide) (by unfold y_rr; (repeat (first | rw [if_pos (by omega)] | rw [if_neg (by omega)])); exact ⟨rfl, rfl⟩)
              · refine g_bipush (q := 84) dX7_reason_82 rfl ⟨by decide, by decide⟩ (by decide) ?_
                refine g_goto (q := 0) (t := 88) dX7_reason_84 (by decide) ?_
                exact g_ret dX7_reason_88 rfl (by decide) (by unfold y_rr; (repeat (first | rw [if_pos (by omega)] | rw [if_neg (by omega)])); exact ⟨rfl, rfl⟩)
            · refine g_fnS (as := [zI m]) (q := 64) (u' := 0) dX7_reason_61 rfl ck_X7_129 rfl rfl (Nat.le_of_ble_eq_true rfl) (by decide) rfl (by decide) (t_isWindow_f (by omega) c61) rfl ?_
              refine g_if_ne (t := 72) (q := 67) dX7_reason_64 (by decide) rfl (fun h64 => (False.elim (by omega))) (fun h64 => ?_)
              refine g_bipush (q := 69) dX7_reason_67 rfl ⟨by decide, by decide⟩ (by decide) ?_
              refine g_goto (q := 0) (t := 88) dX7_reason_69 (by decide) ?_
              exact g_ret dX7_reason_88 rfl (by decide) (by unfold y_rr; (repeat (first | rw [if_pos (by omega)] | rw [if_neg (by omega)])); exact ⟨rfl, rfl⟩)
        · refine g_iconst (q := 46) dX7_reason_45 rfl ⟨by decide, by decide⟩ ?_
          exact g_ret dX7_reason_46 rfl (by decide) (by unfold y_rr; (repeat (first | rw [if_pos (by omega)] | rw [if_neg (by omega)])); exact ⟨rfl, rfl⟩)
      · refine g_iconst (q := 35) dX7_reason_34 rfl ⟨by decide, by decide⟩ ?_
        exact g_ret dX7_reason_35 rfl (by decide) (by unfold y_rr; (repeat (first | rw [if_pos (by omega)] | rw [if_neg (by omega)])); exact ⟨rfl, rfl⟩)
    · refine g_iconst (q := 23) dX7_reason_22 rfl ⟨by decide, by decide⟩ ?_
      exact g_ret dX7_reason_23 rfl (by decide) (by unfold y_rr; (repeat (first | rw [if_pos (by omega)] | rw [if_neg (by omega)])); exact ⟨rfl, rfl⟩)
  · refine g_iconst (q := 11) dX7_reason_10 rfl ⟨by decide, by decide⟩ ?_
    exact g_ret dX7_reason_11 rfl (by decide) (by unfold y_rr; (repeat (first | rw [if_pos (by omega)] | rw [if_neg (by omega)])); exact ⟨rfl, rfl⟩)
/-- the minute to which an order is put off: the loop ends within k + 1 rounds -/
def y_po (S : zS) (c : Nat) (m : Int) : Nat → Int
  | 0 => m
  | k + 1 => if 3 ≤ y_cwa S m c then y_po S c (m + 100) k else m
theorem l_X7_putsOff {Q : zQ} {S : zS} {o : Int} {c : Nat} (hc : S.1 7 = c) (h60 : c ≤ 60) (ho : 0 ≤ o ∧ o < 60) : ∀ (k : Nat) (m : Int), (∃ j : Nat, j < k ∧ y_cwa S (m + 100 * j) c < 3) → 0 ≤ m ∧ m + 100 * k ≤ 100000 → Q (.ok none) (z_sA S 53 o (y_po S c m k)) → z_G mX7_putsOff (z_F mX7_putsOff Q) 0 10 [some (zR 7), some (zI o), some (zI m)] [] S := by
  intro k
  induction k with
  | zero =>
    intro m hj hm hQ
    obtain ⟨j, h, -⟩ := hj
    exact absurd h (by omega)
  | succ k ih =>
    intro m hj hm hQ
    rw [y_po] at hQ
    refine g_aload_n (i := 0) (q := 11) dX7_putsOff_10 rfl rfl rfl ?_
    refine g_iload_n (i := 2) (q := 12) dX7_putsOff_11 rfl rfl rfl ?_
    refine g_fnV (as := [zI m]) (q := 15) (u' := 0) dX7_putsOff_12 rfl ck_X7_132 rfl rfl rfl (Nat.le_of_ble_eq_true rfl) (by decide) rfl (by decide) (t_waitingAt hc h60) rfl ?_
    refine g_iconst (q := 16) dX7_putsOff_15 rfl ⟨by decide, by decide⟩ ?_
    refine g_icmp_lt (t := 25) (q := 19) dX7_putsOff_16 (by decide) rfl (fun h16 => ?_) (fun h16 => ?_)
    · refine g_aload_n (i := 0) (q := 26) dX7_putsOff_25 rfl rfl rfl ?_
      refine g_getr (q := 29) dX7_putsOff_26 rfl fk_X7_50 rfl rfl ?_
      refine g_iload_n (i := 1) (q := 30) dX7_putsOff_29 rfl rfl rfl ?_
      refine g_iload_n (i := 2) (q := 31) dX7_putsOff_30 rfl rfl rfl ?_
      refine g_iast (q := 32) dX7_putsOff_31 rfl ⟨by decide, rfl, rfl⟩ (by omega) (by omega) ?_
      exact g_retv dX7_putsOff_32 rfl (by decide) (by rw [if_neg (by omega)] at hQ; exact hQ)
    · obtain ⟨j, hj1, hj2⟩ := hj
      have hj3 : j ≠ 0 := by (rintro rfl; rw [show m + 100 * ((0 : Nat) : Int) = m by omega] at hj2; omega)
      refine g_iinc (q := 22) (i := 2) (n := 100) dX7_putsOff_19 rfl rfl (by constructor <;> omega) ?_
      refine g_goto (q := 0) (t := 10) dX7_putsOff_22 (by decide) ?_
      exact ih (m + 100) ⟨j - 1, by omega, by rw [show m + 100 + 100 * ((j - 1 : Nat) : Int) = m + 100 * (j : Int) by omega]; exact hj2⟩ (by omega) (by rw [if_pos (by omega)] at hQ; exact hQ)
theorem t_putsOff {S : zS} {o : Int} {c : Nat} (hc : S.1 7 = c) (h60 : c ≤ 60) (ho : 0 ≤ o ∧ o < 60) (hm : 0 ≤ S.2.1 53 o ∧ S.2.1 53 o ≤ 50000) (hj : ∃ j : Nat, j < 60 ∧ y_cwa S (S.2.1 53 o + 100 + 100 * j) c < 3) : z_Fn mX7_putsOff [zR 7, zI o] S none (z_sA S 53 o (y_po S c (S.2.1 53 o + 100) 60)) := by
  refine z_enter (by decide +kernel) rfl (z_n1 trivial (z_n1 trivial z_n0)) (Nat.le_of_ble_eq_true rfl) ?_
  refine g_aload_n (i := 0) (q := 1) dX7_putsOff_0 rfl rfl rfl ?_
  refine g_getr (q := 4) dX7_putsOff_1 rfl fk_X7_50 rfl rfl ?_
  refine g_iload_n (i := 1) (q := 5) dX7_putsOff_4 rfl rfl rfl ?_
  refine g_ildv (q := 6) (z := S.2.1 53 o) dX7_putsOff_5 rfl ⟨by decide, rfl, rfl⟩ (by omega) (by omega) rfl ?_
  refine g_bipush (q := 8) dX7_putsOff_6 rfl ⟨by decide, by decide⟩ (by decide) ?_
  refine g_iadd (q := 9) dX7_putsOff_8 rfl (by constructor <;> omega) ?_
  refine g_istore_n (i := 2) (q := 10) dX7_putsOff_9 rfl rfl (by decide) ?_
  exact l_X7_putsOff hc h60 ho 60 _ hj (by omega) ⟨rfl, rfl⟩
