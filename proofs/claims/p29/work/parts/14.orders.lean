/-! ===== Orders ===== -/
theorem z_n0 : ∀ v ∈ ([] : List zV), z_nl v := fun _ h => nomatch h
theorem z_n1 {v : zV} {l : List zV} (h : z_nl v) (t : ∀ v ∈ l, z_nl v) : ∀ w ∈ v :: l, z_nl w := List.forall_mem_cons.mpr ⟨h, t⟩
/-- the order that waits for n -/
def x_wf (S : zS) (n : Int) (c : Nat) : Option Nat := z_first (fun o => decide (S.2.1 19 o = 1 ∧ S.2.1 21 o = n)) 0 c
def x_cw (S : zS) (c : Nat) : Nat := z_ct (fun o => decide (S.2.1 19 o = 1)) c
def x_cwa (S : zS) (m : Int) (c : Nat) : Nat := z_ct (fun o => decide (S.2.1 19 o = 1 ∧ S.2.1 24 o = m)) c
theorem l_X4_waitingFor {Q : zQ} {S : zS} {n : Int} {c : Nat} (hc : S.1 1 = c) (h60 : c ≤ 60) : ∀ (k i : Nat), i + k = c → Q (.ok (some (zI (z_on (z_first (fun o => decide (S.2.1 19 o = 1 ∧ S.2.1 21 o = n)) i k))))) S → z_G mX4_waitingFor (z_F mX4_waitingFor Q) 0 2 [some (zR 3), some (zI n), some (zI (i : Int))] [] S := by
  intro k
  induction k with
  | zero =>
    intro i hi hQ
    refine g_iload_n (i := 2) (q := 3) dX4_waitingFor_2 rfl rfl rfl ?_
    refine g_aload_n (i := 0) (q := 4) dX4_waitingFor_3 rfl rfl rfl ?_
    refine g_getv (q := 7) (z := S.1 1) dX4_waitingFor_4 rfl fk_X4_30 rfl rfl rfl ?_
    refine g_icmp_ge (t := 38) (q := 10) dX4_waitingFor_7 (by decide) rfl (fun h7 => ?_) (fun h7 => (False.elim (by omega)))
    refine g_iconst (q := 39) dX4_waitingFor_38 rfl ⟨by decide, by decide⟩ ?_
    exact g_ret dX4_waitingFor_39 rfl (by decide) hQ
  | succ k ih =>
    intro i hi hQ
    have hlt : (i : Int) < S.1 1 := by omega
    unfold z_first at hQ
    refine g_iload_n (i := 2) (q := 3) dX4_waitingFor_2 rfl rfl rfl ?_
    refine g_aload_n (i := 0) (q := 4) dX4_waitingFor_3 rfl rfl rfl ?_
    refine g_getv (q := 7) (z := S.1 1) dX4_waitingFor_4 rfl fk_X4_30 rfl rfl rfl ?_
    refine g_icmp_ge (t := 38) (q := 10) dX4_waitingFor_7 (by decide) rfl (fun h7 => (False.elim (by omega))) (fun h7 => ?_)
    refine g_aload_n (i := 0) (q := 11) dX4_waitingFor_10 rfl rfl rfl ?_
    refine g_getr (q := 14) dX4_waitingFor_11 rfl fk_X4_9 rfl rfl ?_
    refine g_iload_n (i := 2) (q := 15) dX4_waitingFor_14 rfl rfl rfl ?_
    refine g_ildv (q := 16) (z := S.2.1 19 (i : Int)) dX4_waitingFor_15 rfl ⟨by decide, rfl, rfl⟩ (by omega) (by omega) rfl ?_
    refine g_iconst (q := 17) dX4_waitingFor_16 rfl ⟨by decide, by decide⟩ ?_
    refine g_icmp_ne (t := 32) (q := 20) dX4_waitingFor_17 (by decide) rfl (fun h17 => ?_) (fun h17 => ?_)
    · refine g_iinc (q := 35) (i := 2) (n := 1) dX4_waitingFor_32 rfl rfl (by constructor <;> omega) ?_
      refine g_goto (q := 0) (t := 2) dX4_waitingFor_35 (by decide) ?_
      exact ih (i + 1) (by omega) (by rw [if_neg (by simp; omega)] at hQ; exact hQ)
    · refine g_aload_n (i := 0) (q := 21) dX4_waitingFor_20 rfl rfl rfl ?_
      refine g_getr (q := 24) dX4_waitingFor_21 rfl fk_X4_18 rfl rfl ?_
      refine g_iload_n (i := 2) (q := 25) dX4_waitingFor_24 rfl rfl rfl ?_
      refine g_ildv (q := 26) (z := S.2.1 21 (i : Int)) dX4_waitingFor_25 rfl ⟨by decide, rfl, rfl⟩ (by omega) (by omega) rfl ?_
      refine g_iload_n (i := 1) (q := 27) dX4_waitingFor_26 rfl rfl rfl ?_
      refine g_icmp_ne (t := 32) (q := 30) dX4_waitingFor_27 (by decide) rfl (fun h27 => ?_) (fun h27 => ?_)
      · refine g_iinc (q := 35) (i := 2) (n := 1) dX4_waitingFor_32 rfl rfl (by constructor <;> omega) ?_
        refine g_goto (q := 0) (t := 2) dX4_waitingFor_35 (by decide) ?_
        exact ih (i + 1) (by omega) (by rw [if_neg (by simp; omega)] at hQ; exact hQ)
      · refine g_iload_n (i := 2) (q := 31) dX4_waitingFor_30 rfl rfl rfl ?_
        exact g_ret dX4_waitingFor_31 rfl (by decide) (by rw [if_pos (by simp; exact ⟨h17, h27⟩)] at hQ; exact hQ)
theorem s_X4_waitingFor {S : zS} {n : Int} {c : Nat} (hc : S.1 1 = c) (h60 : c ≤ 60) : z_Fn mX4_waitingFor [zR 3, zI n] S (some (zI (z_on (x_wf S n c)))) S := by
  refine z_enter (by decide +kernel) rfl (z_n1 trivial (z_n1 trivial z_n0)) (Nat.le_of_ble_eq_true rfl) ?_
  refine g_iconst (q := 1) dX4_waitingFor_0 rfl ⟨by decide, by decide⟩ ?_
  refine g_istore_n (i := 2) (q := 2) dX4_waitingFor_1 rfl rfl (by decide) ?_
  exact l_X4_waitingFor hc h60 c 0 (by omega) ⟨rfl, rfl⟩
theorem x_cw_s (S : zS) (i : Nat) : x_cw S (i + 1) = x_cw S i + if S.2.1 19 i = 1 then 1 else 0 := by
  unfold x_cw
  rw [z_ct]
  simp
theorem x_cwa_s (S : zS) (m : Int) (i : Nat) : x_cwa S m (i + 1) = x_cwa S m i + if S.2.1 19 i = 1 ∧ S.2.1 24 i = m then 1 else 0 := by
  unfold x_cwa
  rw [z_ct]
  simp
theorem x_cw_le (S : zS) (i : Nat) : x_cw S i ≤ i := z_ct_le _ _
theorem x_cwa_le (S : zS) (m : Int) (i : Nat) : x_cwa S m i ≤ i := z_ct_le _ _
theorem l_X4_countWaiting {Q : zQ} {S : zS} {c : Nat} (hc : S.1 1 = c) (h60 : c ≤ 60) (hQ : Q (.ok (some (zI (x_cw S c)))) S) : ∀ (k i : Nat) (w : Int), i + k = c → w = x_cw S i → z_G mX4_countWaiting (z_F mX4_countWaiting Q) 0 4 [some (zR 3), some (zI w), some (zI (i : Int))] [] S := by
  intro k
  induction k with
  | zero =>
    intro i w hi hw
    have e : i = c := by omega
    subst e
    subst hw
    refine g_iload_n (i := 2) (q := 5) dX4_countWaiting_4 rfl rfl rfl ?_
    refine g_aload_n (i := 0) (q := 6) dX4_countWaiting_5 rfl rfl rfl ?_
    refine g_getv (q := 9) (z := S.1 1) dX4_countWaiting_6 rfl fk_X4_30 rfl rfl rfl ?_
    refine g_icmp_ge (t := 31) (q := 12) dX4_countWaiting_9 (by decide) rfl (fun h9 => ?_) (fun h9 => (False.elim (by omega)))
    refine g_iload_n (i := 1) (q := 32) dX4_countWaiting_31 rfl rfl rfl ?_
    exact g_ret dX4_countWaiting_32 rfl (by decide) hQ
  | succ k ih =>
    intro i w hi hw
    have hlt : (i : Int) < S.1 1 := by omega
    have hle := x_cw_le S i
    refine g_iload_n (i := 2) (q := 5) dX4_countWaiting_4 rfl rfl rfl ?_
    refine g_aload_n (i := 0) (q := 6) dX4_countWaiting_5 rfl rfl rfl ?_
    refine g_getv (q := 9) (z := S.1 1) dX4_countWaiting_6 rfl fk_X4_30 rfl rfl rfl ?_
    refine g_icmp_ge (t := 31) (q := 12) dX4_countWaiting_9 (by decide) rfl (fun h9 => (False.elim (by omega))) (fun h9 => ?_)
    refine g_aload_n (i := 0) (q := 13) dX4_countWaiting_12 rfl rfl rfl ?_
    refine g_getr (q := 16) dX4_countWaiting_13 rfl fk_X4_9 rfl rfl ?_
    refine g_iload_n (i := 2) (q := 17) dX4_countWaiting_16 rfl rfl rfl ?_
    refine g_ildv (q := 18) (z := S.2.1 19 (i : Int)) dX4_countWaiting_17 rfl ⟨by decide, rfl, rfl⟩ (by omega) (by omega) rfl ?_
    refine g_iconst (q := 19) dX4_countWaiting_18 rfl ⟨by decide, by decide⟩ ?_
    refine g_icmp_ne (t := 25) (q := 22) dX4_countWaiting_19 (by decide) rfl (fun h19 => ?_) (fun h19 => ?_)
    · refine g_iinc (q := 28) (i := 2) (n := 1) dX4_countWaiting_25 rfl rfl (by constructor <;> omega) ?_
      refine g_goto (q := 0) (t := 4) dX4_countWaiting_28 (by decide) ?_
      exact ih (i + 1) _ (by omega) (by rw [x_cw_s]; split <;> omega)
    · refine g_iinc (q := 25) (i := 1) (n := 1) dX4_countWaiting_22 rfl rfl (by constructor <;> omega) ?_
      refine g_iinc (q := 28) (i := 2) (n := 1) dX4_countWaiting_25 rfl rfl (by constructor <;> omega) ?_
      refine g_goto (q := 0) (t := 4) dX4_countWaiting_28 (by decide) ?_
      exact ih (i + 1) _ (by omega) (by rw [x_cw_s]; split <;> omega)
theorem s_X4_countWaiting {S : zS} {c : Nat} (hc : S.1 1 = c) (h60 : c ≤ 60) : z_Fn mX4_countWaiting [zR 3] S (some (zI (x_cw S c))) S := by
  refine z_enter (by decide +kernel) rfl (z_n1 trivial z_n0) (Nat.le_of_ble_eq_true rfl) ?_
  refine g_iconst (q := 1) dX4_countWaiting_0 rfl ⟨by decide, by decide⟩ ?_
  refine g_istore_n (i := 1) (q := 2) dX4_countWaiting_1 rfl rfl (by decide) ?_
  refine g_iconst (q := 3) dX4_countWaiting_2 rfl ⟨by decide, by decide⟩ ?_
  refine g_istore_n (i := 2) (q := 4) dX4_countWaiting_3 rfl rfl (by decide) ?_
  exact l_X4_countWaiting hc h60 ⟨rfl, rfl⟩ c 0 0 (by omega) rfl
theorem l_X4_countWaitingAt {Q : zQ} {S : zS} {m : Int} {c : Nat} (hc : S.1 1 = c) (h60 : c ≤ 60) (hQ : Q (.ok (some (zI (x_cwa S m c)))) S) : ∀ (k i : Nat) (w : Int), i + k = c → w = x_cwa S m i → z_G mX4_countWaitingAt (z_F mX4_countWaitingAt Q) 0 4 [some (zR 3), some (zI m), some (zI w), some (zI (i : Int))] [] S := by
  intro k
  induction k with
  | zero =>
    intro i w hi hw
    have e : i = c := by omega
    subst e
    subst hw
    refine g_iload_n (i := 3) (q := 5) dX4_countWaitingAt_4 rfl rfl rfl ?_
    refine g_aload_n (i := 0) (q := 6) dX4_countWaitingAt_5 rfl rfl rfl ?_
    refine g_getv (q := 9) (z := S.1 1) dX4_countWaitingAt_6 rfl fk_X4_30 rfl rfl rfl ?_
    refine g_icmp_ge (t := 41) (q := 12) dX4_countWaitingAt_9 (by decide) rfl (fun h9 => ?_) (fun h9 => (False.elim (by omega)))
    refine g_iload_n (i := 2) (q := 42) dX4_countWaitingAt_41 rfl rfl rfl ?_
    exact g_ret dX4_countWaitingAt_42 rfl (by decide) hQ
  | succ k ih =>
    intro i w hi hw
    have hlt : (i : Int) < S.1 1 := by omega
    have hle := x_cwa_le S m i
    refine g_iload_n (i := 3) (q := 5) dX4_countWaitingAt_4 rfl rfl rfl ?_
    refine g_aload_n (i := 0) (q := 6) dX4_countWaitingAt_5 rfl rfl rfl ?_
    refine g_getv (q := 9) (z := S.1 1) dX4_countWaitingAt_6 rfl fk_X4_30 rfl rfl rfl ?_
    refine g_icmp_ge (t := 41) (q := 12) dX4_countWaitingAt_9 (by decide) rfl (fun h9 => (False.elim (by omega))) (fun h9 => ?_)
    refine g_aload_n (i := 0) (q := 13) dX4_countWaitingAt_12 rfl rfl rfl ?_
    refine g_getr (q := 16) dX4_countWaitingAt_13 rfl fk_X4_9 rfl rfl ?_
    refine g_iload_n (i := 3) (q := 17) dX4_countWaitingAt_16 rfl rfl rfl ?_
    refine g_ildv (q := 18) (z := S.2.1 19 (i : Int)) dX4_countWaitingAt_17 rfl ⟨by decide, rfl, rfl⟩ (by omega) (by omega) rfl ?_
    refine g_iconst (q := 19) dX4_countWaitingAt_18 rfl ⟨by decide, by decide⟩ ?_
    refine g_icmp_ne (t := 35) (q := 22) dX4_countWaitingAt_19 (by decide) rfl (fun h19 => ?_) (fun h19 => ?_)
    · refine g_iinc (q := 38) (i := 3) (n := 1) dX4_countWaitingAt_35 rfl rfl (by constructor <;> omega) ?_
      refine g_goto (q := 0) (t := 4) dX4_countWaitingAt_38 (by decide) ?_
      exact ih (i + 1) _ (by omega) (by rw [x_cwa_s]; split <;> omega)
    · refine g_aload_n (i := 0) (q := 23) dX4_countWaitingAt_22 rfl rfl rfl ?_
      refine g_getr (q := 26) dX4_countWaitingAt_23 rfl fk_X4_27 rfl rfl ?_
      refine g_iload_n (i := 3) (q := 27) dX4_countWaitingAt_26 rfl rfl rfl ?_
      refine g_ildv (q := 28) (z := S.2.1 24 (i : Int)) dX4_countWaitingAt_27 rfl ⟨by decide, rfl, rfl⟩ (by omega) (by omega) rfl ?_
      refine g_iload_n (i := 1) (q := 29) dX4_countWaitingAt_28 rfl rfl rfl ?_
      refine g_icmp_ne (t := 35) (q := 32) dX4_countWaitingAt_29 (by decide) rfl (fun h29 => ?_) (fun h29 => ?_)
      · refine g_iinc (q := 38) (i := 3) (n := 1) dX4_countWaitingAt_35 rfl rfl (by constructor <;> omega) ?_
        refine g_goto (q := 0) (t := 4) dX4_countWaitingAt_38 (by decide) ?_
        exact ih (i + 1) _ (by omega) (by rw [x_cwa_s]; split <;> omega)
      · refine g_iinc (q := 35) (i := 2) (n := 1) dX4_countWaitingAt_32 rfl rfl (by constructor <;> omega) ?_
        refine g_iinc (q := 38) (i := 3) (n := 1) dX4_countWaitingAt_35 rfl rfl (by constructor <;> omega) ?_
        refine g_goto (q := 0) (t := 4) dX4_countWaitingAt_38 (by decide) ?_
        exact ih (i + 1) _ (by omega) (by rw [x_cwa_s]; split <;> omega)
theorem s_X4_countWaitingAt {S : zS} {m : Int} {c : Nat} (hc : S.1 1 = c) (h60 : c ≤ 60) : z_Fn mX4_countWaitingAt [zR 3, zI m] S (some (zI (x_cwa S m c))) S := by
  refine z_enter (by decide +kernel) rfl (z_n1 trivial (z_n1 trivial z_n0)) (Nat.le_of_ble_eq_true rfl) ?_
  refine g_iconst (q := 1) dX4_countWaitingAt_0 rfl ⟨by decide, by decide⟩ ?_
  refine g_istore_n (i := 2) (q := 2) dX4_countWaitingAt_1 rfl rfl (by decide) ?_
  refine g_iconst (q := 3) dX4_countWaitingAt_2 rfl ⟨by decide, by decide⟩ ?_
  refine g_istore_n (i := 3) (q := 4) dX4_countWaitingAt_3 rfl rfl (by decide) ?_
  exact l_X4_countWaitingAt hc h60 ⟨rfl, rfl⟩ c 0 0 (by omega) rfl
/-- the orders of a number: the one that waits is cancelled -/
def x_cf (S : zS) (n : Int) (c : Nat) : zS := match x_wf S n c with
  | some k => z_sA S 19 k 3
  | none => S
theorem z_first_lt {p : Nat → Bool} : ∀ {k i r : Nat}, z_first p i k = some r → i ≤ r ∧ r < i + k ∧ p r = true
  | 0, _, _, h => nomatch h
  | k + 1, i, r, h => by
    unfold z_first at h
    split at h
    · next hp =>
      cases h
      exact ⟨Nat.le_refl _, by omega, hp⟩
    · have := z_first_lt h
      exact ⟨by omega, by omega, this.2.2⟩
theorem s_X4_cancelFor {S : zS} {n : Int} {c : Nat} (hc : S.1 1 = c) (h60 : c ≤ 60) : z_Fn mX4_cancelFor [zR 3, zI n] S none (x_cf S n c) := by
  refine z_enter (by decide +kernel) rfl (z_n1 trivial (z_n1 trivial z_n0)) (Nat.le_of_ble_eq_true rfl) ?_
  cases hx : x_wf S n c with
  | none =>
    have e : z_on (x_wf S n c) = -1 := by rw [hx]; rfl
    have e2 : x_cf S n c = S := by unfold x_cf; rw [hx]
    rw [e2]
    have sp := s_X4_waitingFor (n := n) hc h60
    rw [e] at sp
    refine g_aload_n (i := 0) (q := 1) dX4_cancelFor_0 rfl rfl rfl ?_
    refine g_iload_n (i := 1) (q := 2) dX4_cancelFor_1 rfl rfl rfl ?_
    refine g_fnV (as := [zI n]) (q := 5) (u' := 0) dX4_cancelFor_2 rfl ck_X4_34 rfl rfl rfl (Nat.le_of_ble_eq_true rfl) (by decide) rfl (by decide) (sp) rfl ?_
    refine g_istore_n (i := 2) (q := 6) dX4_cancelFor_5 rfl rfl (by decide) ?_
    refine g_iload_n (i := 2) (q := 7) dX4_cancelFor_6 rfl rfl rfl ?_
    refine g_iconst (q := 8) dX4_cancelFor_7 rfl ⟨by decide, by decide⟩ ?_
    refine g_icmp_eq (t := 18) (q := 11) dX4_cancelFor_8 (by decide) rfl (fun h8 => ?_) (fun h8 => (False.elim (by omega)))
    exact g_retv dX4_cancelFor_18 rfl (by decide) ⟨rfl, rfl⟩
  | some k =>
    have e : z_on (x_wf S n c) = (k : Int) := by rw [hx]; rfl
    have e2 : x_cf S n c = z_sA S 19 k 3 := by unfold x_cf; rw [hx]
    rw [e2]
    have hk := z_first_lt hx
    have sp := s_X4_waitingFor (n := n) hc h60
    rw [e] at sp
    refine g_aload_n (i := 0) (q := 1) dX4_cancelFor_0 rfl rfl rfl ?_
    refine g_iload_n (i := 1) (q := 2) dX4_cancelFor_1 rfl rfl rfl ?_
    refine g_fnV (as := [zI n]) (q := 5) (u' := 0) dX4_cancelFor_2 rfl ck_X4_34 rfl rfl rfl (Nat.le_of_ble_eq_true rfl) (by decide) rfl (by decide) (sp) rfl ?_
    refine g_istore_n (i := 2) (q := 6) dX4_cancelFor_5 rfl rfl (by decide) ?_
    refine g_iload_n (i := 2) (q := 7) dX4_cancelFor_6 rfl rfl rfl ?_
    refine g_iconst (q := 8) dX4_cancelFor_7 rfl ⟨by decide, by decide⟩ ?_
    refine g_icmp_eq (t := 18) (q := 11) dX4_cancelFor_8 (by decide) rfl (fun h8 => (False.elim (by omega))) (fun h8 => ?_)
    refine g_aload_n (i := 0) (q := 12) dX4_cancelFor_11 rfl rfl rfl ?_
    refine g_getr (q := 15) dX4_cancelFor_12 rfl fk_X4_9 rfl rfl ?_
    refine g_iload_n (i := 2) (q := 16) dX4_cancelFor_15 rfl rfl rfl ?_
    refine g_iconst (q := 17) dX4_cancelFor_16 rfl ⟨by decide, by decide⟩ ?_
    refine g_iast (q := 18) dX4_cancelFor_17 rfl ⟨by decide, rfl, rfl⟩ (by omega) (by omega) ?_
    exact g_retv dX4_cancelFor_18 rfl (by decide) ⟨rfl, rfl⟩
def x_cby (S : zS) (f : Int) : Nat → Nat → zS
  | _, 0 => S
  | i, k + 1 => x_cby (if S.2.1 19 i = 1 ∧ S.2.1 22 i = f then z_sA S 19 i 3 else S) f (i + 1) k
theorem l_X4_cancelBy {Q : zQ} {f : Int} {c : Nat} (h60 : c ≤ 60) : ∀ (k i : Nat) (S : zS), S.1 1 = c → i + k = c → Q (.ok none) (x_cby S f i k) → z_G mX4_cancelBy (z_F mX4_cancelBy Q) 0 2 [some (zR 3), some (zI f), some (zI (i : Int))] [] S := by
  intro k
  induction k with
  | zero =>
    intro i S hc hi hQ
    refine g_iload_n (i := 2) (q := 3) dX4_cancelBy_2 rfl rfl rfl ?_
    refine g_aload_n (i := 0) (q := 4) dX4_cancelBy_3 rfl rfl rfl ?_
    refine g_getv (q := 7) (z := S.1 1) dX4_cancelBy_4 rfl fk_X4_30 rfl rfl rfl ?_
    refine g_icmp_ge (t := 43) (q := 10) dX4_cancelBy_7 (by decide) rfl (fun h7 => ?_) (fun h7 => (False.elim (by omega)))
    exact g_retv dX4_cancelBy_43 rfl (by decide) hQ
  | succ k ih =>
    intro i S hc hi hQ
    have hlt : (i : Int) < S.1 1 := by omega
    unfold x_cby at hQ
    refine g_iload_n (i := 2) (q := 3) dX4_cancelBy_2 rfl rfl rfl ?_
    refine g_aload_n (i := 0) (q := 4) dX4_cancelBy_3 rfl rfl rfl ?_
    refine g_getv (q := 7) (z := S.1 1) dX4_cancelBy_4 rfl fk_X4_30 rfl rfl rfl ?_
    refine g_icmp_ge (t := 43) (q := 10) dX4_cancelBy_7 (by decide) rfl (fun h7 => (False.elim (by omega))) (fun h7 => ?_)
    refine g_aload_n (i := 0) (q := 11) dX4_cancelBy_10 rfl rfl rfl ?_
    refine g_getr (q := 14) dX4_cancelBy_11 rfl fk_X4_9 rfl rfl ?_
    refine g_iload_n (i := 2) (q := 15) dX4_cancelBy_14 rfl rfl rfl ?_
    refine g_ildv (q := 16) (z := S.2.1 19 (i : Int)) dX4_cancelBy_15 rfl ⟨by decide, rfl, rfl⟩ (by omega) (by omega) rfl ?_
    refine g_iconst (q := 17) dX4_cancelBy_16 rfl ⟨by decide, by decide⟩ ?_
    refine g_icmp_ne (t := 37) (q := 20) dX4_cancelBy_17 (by decide) rfl (fun h17 => ?_) (fun h17 => ?_)
    · refine g_iinc (q := 40) (i := 2) (n := 1) dX4_cancelBy_37 rfl rfl (by constructor <;> omega) ?_
      refine g_goto (q := 0) (t := 2) dX4_cancelBy_40 (by decide) ?_
      first | exact ih (i + 1) _ hc (by omega) (by rw [if_pos ⟨‹_›, ‹_›⟩] at hQ; exact hQ) | exact ih (i + 1) _ hc (by omega) (by rw [if_neg (by omega)] at hQ; exact hQ)
    · refine g_aload_n (i := 0) (q := 21) dX4_cancelBy_20 rfl rfl rfl ?_
      refine g_getr (q := 24) dX4_cancelBy_21 rfl fk_X4_21 rfl rfl ?_
      refine g_iload_n (i := 2) (q := 25) dX4_cancelBy_24 rfl rfl rfl ?_
      refine g_ildv (q := 26) (z := S.2.1 22 (i : Int)) dX4_cancelBy_25 rfl ⟨by decide, rfl, rfl⟩ (by omega) (by omega) rfl ?_
      refine g_iload_n (i := 1) (q := 27) dX4_cancelBy_26 rfl rfl rfl ?_
      refine g_icmp_ne (t := 37) (q := 30) dX4_cancelBy_27 (by decide) rfl (fun h27 => ?_) (fun h27 => ?_)
      · refine g_iinc (q := 40) (i := 2) (n := 1) dX4_cancelBy_37 rfl rfl (by constructor <;> omega) ?_
        refine g_goto (q := 0) (t := 2) dX4_cancelBy_40 (by decide) ?_
        first | exact ih (i + 1) _ hc (by omega) (by rw [if_pos ⟨‹_›, ‹_›⟩] at hQ; exact hQ) | exact ih (i + 1) _ hc (by omega) (by rw [if_neg (by omega)] at hQ; exact hQ)
      · refine g_aload_n (i := 0) (q := 31) dX4_cancelBy_30 rfl rfl rfl ?_
        refine g_getr (q := 34) dX4_cancelBy_31 rfl fk_X4_9 rfl rfl ?_
        refine g_iload_n (i := 2) (q := 35) dX4_cancelBy_34 rfl rfl rfl ?_
        refine g_iconst (q := 36) dX4_cancelBy_35 rfl ⟨by decide, by decide⟩ ?_
        refine g_iast (q := 37) dX4_cancelBy_36 rfl ⟨by decide, rfl, rfl⟩ (by omega) (by omega) ?_
        refine g_iinc (q := 40) (i := 2) (n := 1) dX4_cancelBy_37 rfl rfl (by constructor <;> omega) ?_
        refine g_goto (q := 0) (t := 2) dX4_cancelBy_40 (by decide) ?_
        first | exact ih (i + 1) _ hc (by omega) (by rw [if_pos ⟨‹_›, ‹_›⟩] at hQ; exact hQ) | exact ih (i + 1) _ hc (by omega) (by rw [if_neg (by omega)] at hQ; exact hQ)
theorem s_X4_cancelBy {S : zS} {f : Int} {c : Nat} (hc : S.1 1 = c) (h60 : c ≤ 60) : z_Fn mX4_cancelBy [zR 3, zI f] S none (x_cby S f 0 c) := by
  refine z_enter (by decide +kernel) rfl (z_n1 trivial (z_n1 trivial z_n0)) (Nat.le_of_ble_eq_true rfl) ?_
  refine g_iconst (q := 1) dX4_cancelBy_0 rfl ⟨by decide, by decide⟩ ?_
  refine g_istore_n (i := 2) (q := 2) dX4_cancelBy_1 rfl rfl (by decide) ?_
  exact l_X4_cancelBy h60 c 0 S hc (by omega) ⟨rfl, rfl⟩
/-- an order more -/
def x_oa (S : zS) (f n d m r : Int) : zS := z_sS (z_sA (z_sA (z_sA (z_sA (z_sA (z_sA S 19 (S.1 1) (if r = 0 then 1 else 0)) 20 (S.1 1) r) 21 (S.1 1) n) 22 (S.1 1) f) 23 (S.1 1) d) 24 (S.1 1) m) 1 (S.1 1 + 1)
theorem s_X4_add {S : zS} {f n d m r : Int} (h0 : 0 ≤ S.1 1) (h60 : S.1 1 < 60) : z_Fn mX4_add [zR 3, zI f, zI n, zI d, zI m, zI r] S (some (zI (S.1 1))) (x_oa S f n d m r) := by
  refine z_enter (by decide +kernel) rfl (z_n1 trivial (z_n1 trivial (z_n1 trivial (z_n1 trivial (z_n1 trivial (z_n1 trivial z_n0)))))) (Nat.le_of_ble_eq_true rfl) ?_
  unfold x_oa
  by_cases hr : r = 0
  · rw [if_pos hr]
    refine g_aload_n (i := 0) (q := 1) dX4_add_0 rfl rfl rfl ?_
    refine g_getv (q := 4) (z := S.1 1) dX4_add_1 rfl fk_X4_30 rfl rfl rfl ?_
    refine g_bipush (q := 6) dX4_add_4 rfl ⟨by decide, by decide⟩ (by decide) ?_
    refine g_icmp_lt (t := 11) (q := 9) dX4_add_6 (by decide) rfl (fun h6 => ?_) (fun h6 => (False.elim (by omega)))
    refine g_aload_n (i := 0) (q := 12) dX4_add_11 rfl rfl rfl ?_
    refine g_getv (q := 15) (z := S.1 1) dX4_add_12 rfl fk_X4_30 rfl rfl rfl ?_
    refine g_istore (q := 17) dX4_add_15 rfl (by decide) ?_
    refine g_aload_n (i := 0) (q := 18) dX4_add_17 rfl rfl rfl ?_
    refine g_getr (q := 21) dX4_add_18 rfl fk_X4_9 rfl rfl ?_
    refine g_iload (q := 23) dX4_add_21 rfl rfl ?_
    refine g_iload (q := 25) dX4_add_23 rfl rfl ?_
    refine g_if_ne (t := 32) (q := 28) dX4_add_25 (by decide) rfl (fun h25 => (False.elim (by omega))) (fun h25 => ?_)
    refine g_iconst (q := 29) dX4_add_28 rfl ⟨by decide, by decide⟩ ?_
    refine g_goto (q := 0) (t := 33) dX4_add_29 (by decide) ?_
    refine g_iast (q := 34) dX4_add_33 rfl ⟨by decide, rfl, rfl⟩ (by omega) (by omega) ?_
    refine g_aload_n (i := 0) (q := 35) dX4_add_34 rfl rfl rfl ?_
    refine g_getr (q := 38) dX4_add_35 rfl fk_X4_15 rfl rfl ?_
    refine g_iload (q := 40) dX4_add_38 rfl rfl ?_
    refine g_iload (q := 42) dX4_add_40 rfl rfl ?_
    refine g_iast (q := 43) dX4_add_42 rfl ⟨by decide, rfl, rfl⟩ (by omega) (by omega) ?_
    refine g_aload_n (i := 0) (q := 44) dX4_add_43 rfl rfl rfl ?_
    refine g_getr (q := 47) dX4_add_44 rfl fk_X4_18 rfl rfl ?_
    refine g_iload (q := 49) dX4_add_47 rfl rfl ?_
    refine g_iload_n (i := 2) (q := 50) dX4_add_49 rfl rfl rfl ?_
    refine g_iast (q := 51) dX4_add_50 rfl ⟨by decide, rfl, rfl⟩ (by omega) (by omega) ?_
    refine g_aload_n (i := 0) (q := 52) dX4_add_51 rfl rfl rfl ?_
    refine g_getr (q := 55) dX4_add_52 rfl fk_X4_21 rfl rfl ?_
    refine g_iload (q := 57) dX4_add_55 rfl rfl ?_
    refine g_iload_n (i := 1) (q := 58) dX4_add_57 rfl rfl rfl ?_
    refine g_iast (q := 59) dX4_add_58 rfl ⟨by decide, rfl, rfl⟩ (by omega) (by omega) ?_
    refine g_aload_n (i := 0) (q := 60) dX4_add_59 rfl rfl rfl ?_
    refine g_getr (q := 63) dX4_add_60 rfl fk_X4_24 rfl rfl ?_
    refine g_iload (q := 65) dX4_add_63 rfl rfl ?_
    refine g_iload_n (i := 3) (q := 66) dX4_add_65 rfl rfl rfl ?_
    refine g_iast (q := 67) dX4_add_66 rfl ⟨by decide, rfl, rfl⟩ (by omega) (by omega) ?_
    refine g_aload_n (i := 0) (q := 68) dX4_add_67 rfl rfl rfl ?_
    refine g_getr (q := 71) dX4_add_68 rfl fk_X4_27 rfl rfl ?_
    refine g_iload (q := 73) dX4_add_71 rfl rfl ?_
    refine g_iload (q := 75) dX4_add_73 rfl rfl ?_
    refine g_iast (q := 76) dX4_add_75 rfl ⟨by decide, rfl, rfl⟩ (by omega) (by omega) ?_
    refine g_aload_n (i := 0) (q := 77) dX4_add_76 rfl rfl rfl ?_
    refine g_dup (q := 78) dX4_add_77 rfl trivial ?_
    refine g_getv (q := 81) (z := S.1 1) dX4_add_78 rfl fk_X4_30 rfl rfl rfl ?_
    refine g_iconst (q := 82) dX4_add_81 rfl ⟨by decide, by decide⟩ ?_
    refine g_iadd (q := 83) dX4_add_82 rfl (by constructor <;> omega) ?_
    refine g_put (q := 86) dX4_add_83 rfl fk_X4_30 fp_4_6 rfl rfl ?_
    refine g_iload (q := 88) dX4_add_86 rfl rfl ?_
    exact g_ret dX4_add_88 rfl (by decide) ⟨rfl, rfl⟩
  · rw [if_neg hr]
    refine g_aload_n (i := 0) (q := 1) dX4_add_0 rfl rfl rfl ?_
    refine g_getv (q := 4) (z := S.1 1) dX4_add_1 rfl fk_X4_30 rfl rfl rfl ?_
    refine g_bipush (q := 6) dX4_add_4 rfl ⟨by decide, by decide⟩ (by decide) ?_
    refine g_icmp_lt (t := 11) (q := 9) dX4_add_6 (by decide) rfl (fun h6 => ?_) (fun h6 => (False.elim (by omega)))
    refine g_aload_n (i := 0) (q := 12) dX4_add_11 rfl rfl rfl ?_
    refine g_getv (q := 15) (z := S.1 1) dX4_add_12 rfl fk_X4_30 rfl rfl rfl ?_
    refine g_istore (q := 17) dX4_add_15 rfl (by decide) ?_
    refine g_aload_n (i := 0) (q := 18) dX4_add_17 rfl rfl rfl ?_
    refine g_getr (q := 21) dX4_add_18 rfl fk_X4_9 rfl rfl ?_
    refine g_iload (q := 23) dX4_add_21 rfl rfl ?_
    refine g_iload (q := 25) dX4_add_23 rfl rfl ?_
    refine g_if_ne (t := 32) (q := 28) dX4_add_25 (by decide) rfl (fun h25 => ?_) (fun h25 => (False.elim (by omega)))
    refine g_iconst (q := 33) dX4_add_32 rfl ⟨by decide, by decide⟩ ?_
    refine g_iast (q := 34) dX4_add_33 rfl ⟨by decide, rfl, rfl⟩ (by omega) (by omega) ?_
    refine g_aload_n (i := 0) (q := 35) dX4_add_34 rfl rfl rfl ?_
    refine g_getr (q := 38) dX4_add_35 rfl fk_X4_15 rfl rfl ?_
    refine g_iload (q := 40) dX4_add_38 rfl rfl ?_
    refine g_iload (q := 42) dX4_add_40 rfl rfl ?_
    refine g_iast (q := 43) dX4_add_42 rfl ⟨by decide, rfl, rfl⟩ (by omega) (by omega) ?_
    refine g_aload_n (i := 0) (q := 44) dX4_add_43 rfl rfl rfl ?_
    refine g_getr (q := 47) dX4_add_44 rfl fk_X4_18 rfl rfl ?_
    refine g_iload (q := 49) dX4_add_47 rfl rfl ?_
    refine g_iload_n (i := 2) (q := 50) dX4_add_49 rfl rfl rfl ?_
    refine g_iast (q := 51) dX4_add_50 rfl ⟨by decide, rfl, rfl⟩ (by omega) (by omega) ?_
    refine g_aload_n (i := 0) (q := 52) dX4_add_51 rfl rfl rfl ?_
    refine g_getr (q := 55) dX4_add_52 rfl fk_X4_21 rfl rfl ?_
    refine g_iload (q := 57) dX4_add_55 rfl rfl ?_
    refine g_iload_n (i := 1) (q := 58) dX4_add_57 rfl rfl rfl ?_
    refine g_iast (q := 59) dX4_add_58 rfl ⟨by decide, rfl, rfl⟩ (by omega) (by omega) ?_
    refine g_aload_n (i := 0) (q := 60) dX4_add_59 rfl rfl rfl ?_
    refine g_getr (q := 63) dX4_add_60 rfl fk_X4_24 rfl rfl ?_
    refine g_iload (q := 65) dX4_add_63 rfl rfl ?_
    refine g_iload_n (i := 3) (q := 66) dX4_add_65 rfl rfl rfl ?_
    refine g_iast (q := 67) dX4_add_66 rfl ⟨by decide, rfl, rfl⟩ (by omega) (by omega) ?_
    refine g_aload_n (i := 0) (q := 68) dX4_add_67 rfl rfl rfl ?_
    refine g_getr (q := 71) dX4_add_68 rfl fk_X4_27 rfl rfl ?_
    refine g_iload (q := 73) dX4_add_71 rfl rfl ?_
    refine g_iload (q := 75) dX4_add_73 rfl rfl ?_
    refine g_iast (q := 76) dX4_add_75 rfl ⟨by decide, rfl, rfl⟩ (by omega) (by omega) ?_
    refine g_aload_n (i := 0) (q := 77) dX4_add_76 rfl rfl rfl ?_
    refine g_dup (q := 78) dX4_add_77 rfl trivial ?_
    refine g_getv (q := 81) (z := S.1 1) dX4_add_78 rfl fk_X4_30 rfl rfl rfl ?_
    refine g_iconst (q := 82) dX4_add_81 rfl ⟨by decide, by decide⟩ ?_
    refine g_iadd (q := 83) dX4_add_82 rfl (by constructor <;> omega) ?_
    refine g_put (q := 86) dX4_add_83 rfl fk_X4_30 fp_4_6 rfl rfl ?_
    refine g_iload (q := 88) dX4_add_86 rfl rfl ?_
    exact g_ret dX4_add_88 rfl (by decide) ⟨rfl, rfl⟩
/-- the minute to which an order is put off -/
def x_po (S : zS) (c : Nat) (m : Int) : Nat → Int
  | 0 => m
  | k + 1 => if 3 ≤ x_cwa S m c then x_po S c (m + 100) k else m
theorem l_X4_putOff {Q : zQ} {S : zS} {o : Int} {c : Nat} (hc : S.1 1 = c) (h60 : c ≤ 60) (ho : 0 ≤ o) (ho2 : o < 60) : ∀ (k i : Nat) (m : Int), i + k = 60 → 0 ≤ m → m + 100 * k ≤ 100000 → Q (.ok none) (z_sA S 24 o (x_po S c m k)) → z_G mX4_putOff (z_F mX4_putOff Q) 0 12 [some (zR 3), some (zI o), some (zI m), some (zI (i : Int))] [] S := by
  intro k
  induction k with
  | zero =>
    intro i m hi hm hm2 hQ
    refine g_iload_n (i := 3) (q := 13) dX4_putOff_12 rfl rfl rfl ?_
    refine g_bipush (q := 15) dX4_putOff_13 rfl ⟨by decide, by decide⟩ (by decide) ?_
    refine g_icmp_ge (t := 36) (q := 18) dX4_putOff_15 (by decide) rfl (fun h15 => ?_) (fun h15 => (False.elim (by omega)))
    refine g_aload_n (i := 0) (q := 37) dX4_putOff_36 rfl rfl rfl ?_
    refine g_getr (q := 40) dX4_putOff_37 rfl fk_X4_27 rfl rfl ?_
    refine g_iload_n (i := 1) (q := 41) dX4_putOff_40 rfl rfl rfl ?_
    refine g_iload_n (i := 2) (q := 42) dX4_putOff_41 rfl rfl rfl ?_
    refine g_iast (q := 43) dX4_putOff_42 rfl ⟨by decide, rfl, rfl⟩ (by omega) (by omega) ?_
    exact g_retv dX4_putOff_43 rfl (by decide) hQ
  | succ k ih =>
    intro i m hi hm hm2 hQ
    unfold x_po at hQ
    refine g_iload_n (i := 3) (q := 13) dX4_putOff_12 rfl rfl rfl ?_
    refine g_bipush (q := 15) dX4_putOff_13 rfl ⟨by decide, by decide⟩ (by decide) ?_
    refine g_icmp_ge (t := 36) (q := 18) dX4_putOff_15 (by decide) rfl (fun h15 => (False.elim (by omega))) (fun h15 => ?_)
    refine g_aload_n (i := 0) (q := 19) dX4_putOff_18 rfl rfl rfl ?_
    refine g_iload_n (i := 2) (q := 20) dX4_putOff_19 rfl rfl rfl ?_
    refine g_fnV (as := [zI m]) (q := 23) (u' := 0) dX4_putOff_20 rfl ck_X4_38 rfl rfl rfl (Nat.le_of_ble_eq_true rfl) (by decide) rfl (by decide) (s_X4_countWaitingAt hc h60) rfl ?_
    refine g_iconst (q := 24) dX4_putOff_23 rfl ⟨by decide, by decide⟩ ?_
    refine g_icmp_lt (t := 36) (q := 27) dX4_putOff_24 (by decide) rfl (fun h24 => ?_) (fun h24 => ?_)
    · refine g_aload_n (i := 0) (q := 37) dX4_putOff_36 rfl rfl rfl ?_
      refine g_getr (q := 40) dX4_putOff_37 rfl fk_X4_27 rfl rfl ?_
      refine g_iload_n (i := 1) (q := 41) dX4_putOff_40 rfl rfl rfl ?_
      refine g_iload_n (i := 2) (q := 42) dX4_putOff_41 rfl rfl rfl ?_
      refine g_iast (q := 43) dX4_putOff_42 rfl ⟨by decide, rfl, rfl⟩ (by omega) (by omega) ?_
      exact g_retv dX4_putOff_43 rfl (by decide) (by rw [if_neg (by omega)] at hQ; exact hQ)
    · refine g_iinc (q := 30) (i := 2) (n := 100) dX4_putOff_27 rfl rfl (by constructor <;> omega) ?_
      refine g_iinc (q := 33) (i := 3) (n := 1) dX4_putOff_30 rfl rfl (by constructor <;> omega) ?_
      refine g_goto (q := 0) (t := 12) dX4_putOff_33 (by decide) ?_
      exact ih (i + 1) _ (by omega) (by omega) (by omega) (by rw [if_pos (by omega)] at hQ; exact hQ)
theorem s_X4_putOff {S : zS} {o : Int} {c : Nat} (hc : S.1 1 = c) (h60 : c ≤ 60) (ho : 0 ≤ o) (ho2 : o < 60) (hm : 0 ≤ S.2.1 24 o) (hm2 : S.2.1 24 o ≤ 50000) : z_Fn mX4_putOff [zR 3, zI o] S none (z_sA S 24 o (x_po S c (S.2.1 24 o + 100) 60)) := by
  refine z_enter (by decide +kernel) rfl (z_n1 trivial (z_n1 trivial z_n0)) (Nat.le_of_ble_eq_true rfl) ?_
  refine g_aload_n (i := 0) (q := 1) dX4_putOff_0 rfl rfl rfl ?_
  refine g_getr (q := 4) dX4_putOff_1 rfl fk_X4_27 rfl rfl ?_
  refine g_iload_n (i := 1) (q := 5) dX4_putOff_4 rfl rfl rfl ?_
  refine g_ildv (q := 6) (z := S.2.1 24 o) dX4_putOff_5 rfl ⟨by decide, rfl, rfl⟩ (by omega) (by omega) rfl ?_
  refine g_bipush (q := 8) dX4_putOff_6 rfl ⟨by decide, by decide⟩ (by decide) ?_
  refine g_iadd (q := 9) dX4_putOff_8 rfl (by constructor <;> omega) ?_
  refine g_istore_n (i := 2) (q := 10) dX4_putOff_9 rfl rfl (by decide) ?_
  refine g_iconst (q := 11) dX4_putOff_10 rfl ⟨by decide, by decide⟩ ?_
  refine g_istore_n (i := 3) (q := 12) dX4_putOff_11 rfl rfl (by decide) ?_
  exact l_X4_putOff hc h60 ho ho2 60 0 _ (by omega) (by omega) (by omega) ⟨rfl, rfl⟩
