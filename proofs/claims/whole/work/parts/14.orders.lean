/-! ===== Orders ===== -/
theorem z_n0 : ∀ v ∈ ([] : List zV), z_nl v := fun _ h => nomatch h
theorem z_n1 {v : zV} {l : List zV} (h : z_nl v) (t : ∀ v ∈ l, z_nl v) : ∀ w ∈ v :: l, z_nl w := List.forall_mem_cons.mpr ⟨h, t⟩
theorem l_X4_waitingFor {Q : zQ} {S : zS} {n : Int} {c : Nat} (hc : S.1 1 = c) (h60 : c ≤ 60) : ∀ (k i : Nat), i + k = c → Q (.ok (some (zI (z_on (z_first (fun o => decide (S.2.1 19 o = 1 ∧ S.2.1 21 o = n)) i k))))) S → z_G mX4_waitingFor (z_F mX4_waitingFor Q) 0 2 [some (zR 3), some (zI n), some (zI (i : Int))] [] S := by
  intro k
  induction k with
  | zero =>
    intro i hi hQ
    refine g_iload_n (i := 2) (q := 3) dX4_waitingFor_2 rfl rfl rfl ?_
    refine g_aload_n (i := 0) (q := 4) dX4_waitingFor_3 rfl rfl rfl ?_
    refine g_getv (q := 7) (z := S.1 1) dX4_waitingFor_4 rfl fk_X4_30 rfl rfl rfl ?_
    refine g_icmp_ge (t := 38) (q := 10) dX4_waitingFor_7 (by decide) rfl (fun h7 => ?_) (fun h7 => (False.elim (by omega)))
    refine g_iconst (q := 39) dX4_waitingFor_38 rfl ⟨by decide, by decide⟩ ?_
    exact g_ret dX4_waitingFor_39 rfl (by decide) hQ
  | succ k ih =>
    intro i hi hQ
    have hlt : (i : Int) < S.1 1 := by omega
    unfold z_first at hQ
    refine g_iload_n (i := 2) (q := 3) dX4_waitingFor_2 rfl rfl rfl ?_
    refine g_aload_n (i := 0) (q := 4) dX4_waitingFor_3 rfl rfl rfl ?_
    refine g_getv (q := 7) (z := S.1 1) dX4_waitingFor_4 rfl fk_X4_30 rfl rfl rfl ?_
    refine g_icmp_ge (t := 38) (q := 10) dX4_waitingFor_7 (by decide) rfl (fun h7 => (False.elim (by omega))) (fun h7 => ?_)
    refine g_aload_n (i := 0) (q := 11) dX4_waitingFor_10 rfl rfl rfl ?_
    refine g_getr (q := 14) dX4_waitingFor_11 rfl fk_X4_9 rfl rfl ?_
    refine g_iload_n (i := 2) (q := 15) dX4_waitingFor_14 rfl rfl rfl ?_
    refine g_ildv (q := 16) (z := S.2.1 19 (i : Int)) dX4_waitingFor_15 rfl ⟨by decide, rfl, rfl⟩ (by omega) (by omega) rfl ?_
    refine g_iconst (q := 17) dX4_waitingFor_16 rfl ⟨by decide, by decide⟩ ?_
    refine g_icmp_ne (t := 32) (q := 20) dX4_waitingFor_17 (by decide) rfl (fun h17 => ?_) (fun h17 => ?_)
    · refine g_iinc (q := 35) (i := 2) (n := 1) dX4_waitingFor_32 rfl rfl (by constructor <;> omega) ?_
      refine g_goto (q := 0) (t := 2) dX4_waitingFor_35 (by decide) ?_
      exact ih (i + 1) (by omega) (by rw [if_neg (by simp; omega)] at hQ; exact hQ)
    · refine g_aload_n (i := 0) (q := 21) dX4_waitingFor_20 rfl rfl rfl ?_
      refine g_getr (q := 24) dX4_waitingFor_21 rfl fk_X4_18 rfl rfl ?_
      refine g_iload_n (i := 2) (q := 25) dX4_waitingFor_24 rfl rfl rfl ?_
      refine g_ildv (q := 26) (z := S.2.1 21 (i : Int)) dX4_waitingFor_25 rfl ⟨by decide, rfl, rfl⟩ (by omega) (by omega) rfl ?_
      refine g_iload_n (i := 1) (q := 27) dX4_waitingFor_26 rfl rfl rfl ?_
      refine g_icmp_ne (t := 32) (q := 30) dX4_waitingFor_27 (by decide) rfl (fun h27 => ?_) (fun h27 => ?_)
      · refine g_iinc (q := 35) (i := 2) (n := 1) dX4_waitingFor_32 rfl rfl (by constructor <;> omega) ?_
        refine g_goto (q := 0) (t := 2) dX4_waitingFor_35 (by decide) ?_
        exact ih (i + 1) (by omega) (by rw [if_neg (by simp; omega)] at hQ; exact hQ)
      · refine g_iload_n (i := 2) (q := 31) dX4_waitingFor_30 rfl rfl rfl ?_
        exact g_ret dX4_waitingFor_31 rfl (by decide) (by rw [if_pos (by simp; exact ⟨h17, h27⟩)] at hQ; exact hQ)
theorem s_X4_waitingFor {S : zS} {n : Int} {c : Nat} (hc : S.1 1 = c) (h60 : c ≤ 60) : z_Fn mX4_waitingFor [zR 3, zI n] S (some (zI (z_on (z_first (fun o => decide (S.2.1 19 o = 1 ∧ S.2.1 21 o = n)) 0 c)))) S := by
  refine z_enter (by decide +kernel) rfl (z_n1 trivial (z_n1 trivial z_n0)) (Nat.le_of_ble_eq_true rfl) ?_
  refine g_iconst (q := 1) dX4_waitingFor_0 rfl ⟨by decide, by decide⟩ ?_
  refine g_istore_n (i := 2) (q := 2) dX4_waitingFor_1 rfl rfl (by decide) ?_
  exact l_X4_waitingFor hc h60 c 0 (by omega) ⟨rfl, rfl⟩
