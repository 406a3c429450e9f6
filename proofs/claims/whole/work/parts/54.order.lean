/-! ===== the simulation: order ===== -/
theorem rr_eq {n9 : Nat} {S T U : zS} (h : zRel n9 S T) (u6 : U.1 6 = T.1 6) (u42 : U.2.1 42 = T.2.1 42) (u43 : U.2.1 43 = T.2.1 43) (u45 : U.2.1 45 = T.2.1 45) (u48 : U.2.1 48 = T.2.1 48) (u50 : U.2.1 50 = T.2.1 50) (u53 : U.2.1 53 = T.2.1 53) {f n t m : Int} (hn : 0 ≤ n ∧ n < 200) : x_rr S (S.1 1).toNat f n t m = y_rr U (S.1 1).toNat f n t m := by
  have q1 := h.serv n hn.1 hn.2
  have q2 := h.secr n hn.1 hn.2
  have q3 := h.sile n hn.1 hn.2
  have q4 := h.now
  have q5 := h.nowr
  have e1 : y_wf U n (S.1 1).toNat = y_wf T n (S.1 1).toNat := y_wf_cong u48 u50 _
  have e2 : y_cwa U m (S.1 1).toNat = y_cwa T m (S.1 1).toNat := by unfold y_cwa; rw [u48, u53]
  unfold x_rr y_rr
  rw [e1, e2, u6, u42, u43, u45, h.wf' n, h.cwa' m, q1.1, q2]
  by_cases c : S.1 0 ≤ S.2.1 16 n
  · rw [if_pos c, if_pos (show T.1 6 - T.2.1 45 n < 50 by omega)]
  · rw [if_neg c, if_neg (show ¬ T.1 6 - T.2.1 45 n < 50 by omega)]
theorem rr_0 {S : zS} {c : Nat} {f n t m : Int} (h : x_rr S c f n t m = 0) : ¬ S.2.1 13 n = -1 ∧ z_on (x_wf S n c) = -1 := by
  unfold x_rr at h
  by_cases c1 : S.2.1 13 n = -1
  · rw [if_pos c1] at h; omega
  · rw [if_neg c1] at h
    by_cases c2 : S.2.1 13 n = f
    · rw [if_pos c2] at h; omega
    · rw [if_neg c2] at h
      by_cases c3 : S.2.1 14 n = t
      · rw [if_pos c3] at h
        by_cases c4 : z_on (x_wf S n c) = -1
        · exact ⟨c1, c4⟩
        · rw [if_neg c4] at h; omega
      · rw [if_neg c3] at h; omega
theorem wf_free {S : zS} {n : Int} {c : Nat} (h : z_on (x_wf S n c) = -1) : ∀ o : Nat, o < c → ¬ (S.2.1 19 o = 1 ∧ S.2.1 21 o = n) := by
  intro o ho q
  cases hx : x_wf S n c with
  | none =>
    have := z_first_none _ _ hx o (by omega) (by omega)
    simp [q] at this
  | some r =>
    rw [hx] at h
    have h2 : (r : Int) = -1 := h
    omega
theorem ct_oa {S : zS} {f n d m r : Int} {q : (Int → Int) → Nat → Bool} (h0 : 0 ≤ S.1 1) (hq : ∀ (A B : Int → Int) (k : Nat), A k = B k → q A k = q B k) (hb : ∀ (A : Int → Int) (k : Nat), A k = 0 ∨ A k = 1 → q A k = false) : z_ct (q ((x_oa S f n d m r).2.1 19)) ((x_oa S f n d m r).1 1).toNat = z_ct (q (S.2.1 19)) (S.1 1).toNat := by
  have e : ((x_oa S f n d m r).1 1).toNat = (S.1 1).toNat + 1 := by
    show (S.1 1 + 1).toNat = _
    omega
  have e9 : ∀ j : Int, (x_oa S f n d m r).2.1 19 j = if j = S.1 1 then (if r = 0 then 1 else 0) else S.2.1 19 j := fun j => by
    simp [x_oa, za_sA, za_sS, zv_sA, zv_sS]
  rw [e, z_ct, hb _ _ (by rw [e9, if_pos (by omega)]; split <;> simp)]
  simp
  exact z_ct_cong (fun k hk => hq _ _ k (by rw [e9, if_neg (by omega)]))
theorem rel_order {n : Nat} {S T : zS} (h : zRel n S T) {f k d m r : Int} (hf : 0 ≤ f ∧ f < 6) (hk : 0 ≤ k ∧ k < 200) (hm : 0 ≤ m ∧ m ≤ 20000) (hc : S.1 1 < 60) (hr : r = 0 → ¬ S.2.1 13 k = -1 ∧ ∀ o : Int, 0 ≤ o → o < S.1 1 → ¬ (S.2.1 19 o = 1 ∧ S.2.1 21 o = k)) : zRel n (x_oa S f k d m r) (y_oa T f k d m r) := by
  refine ⟨h.now, h.nowr, ?_, ?_, h.chg, h.chgr, h.hold, h.gone, h.down, h.lag, h.acc, h.lrn, h.serv, h.secr, h.quar, h.sile, h.call, h.last, h.lastn, h.held, h.cat, h.to6, ?_, ?_, ?_, ?_, ?_, (fun f k x y z w => by have q := h.tab f k x y z w; (try unfold x_oa); (repeat (first | rw [za_ne (k' := 30 + f.toNat) (by omega)] at q | rw [za_sS] at q | rw [za_sL] at q)); (repeat (first | rw [za_ne (k' := 30 + f.toNat) (by omega)] | rw [za_sS] | rw [za_sL])); exact q), h.repl, ?_, ?_, h.stay, ?_⟩
  · show S.1 1 + 1 = T.1 7 + 1
    have := h.ord
    omega
  · show 0 ≤ S.1 1 + 1 ∧ S.1 1 + 1 ≤ 60
    have := h.ordr
    omega
  · intro o x y
    have y2 : o < S.1 1 + 1 := y
    have eo := h.ord
    by_cases c : o = S.1 1
    · simp [x_oa, y_oa, za_sA, za_sS, za_sL, zv_sA, zv_sS, zv_sL, c, eo]
    · have q := h.ords o x (by omega)
      have c2 : ¬ o = T.1 7 := by omega
      simp [x_oa, y_oa, za_sA, za_sS, za_sL, zv_sA, zv_sS, zv_sL, c, c2]
      exact q
  · intro o x y
    have y2 : o < S.1 1 + 1 := y
    by_cases c : o = S.1 1
    · simp [x_oa, y_oa, za_sA, za_sS, za_sL, zv_sA, zv_sS, zv_sL, c]
      omega
    · have q := h.ordv o x (by omega)
      simp [x_oa, y_oa, za_sA, za_sS, za_sL, zv_sA, zv_sS, zv_sL, c]
      exact q
  · intro o x y z
    have y2 : o < S.1 1 + 1 := y
    by_cases c : o = S.1 1
    · by_cases c0 : r = 0
      · simp [x_oa, y_oa, za_sA, za_sS, za_sL, zv_sA, zv_sS, zv_sL, c]
        exact (hr c0).1
      · simp [x_oa, y_oa, za_sA, za_sS, za_sL, zv_sA, zv_sS, zv_sL, c, c0] at z
    · simp [x_oa, y_oa, za_sA, za_sS, za_sL, zv_sA, zv_sS, zv_sL, c] at z
      have q := h.ordw o x (by omega) z
      simp [x_oa, y_oa, za_sA, za_sS, za_sL, zv_sA, zv_sS, zv_sL, c]
      exact q
  · intro o x y z
    have y2 : o < S.1 1 + 1 := y
    have eo := h.ord
    by_cases c : o = S.1 1
    · by_cases c0 : r = 0 <;> simp [x_oa, y_oa, za_sA, za_sS, za_sL, zv_sA, zv_sS, zv_sL, c, c0] at z
    · simp [x_oa, y_oa, za_sA, za_sS, za_sL, zv_sA, zv_sS, zv_sL, c] at z
      have q := h.ordd o x (by omega) z
      have c2 : ¬ o = T.1 7 := by omega
      simp [x_oa, y_oa, za_sA, za_sS, za_sL, zv_sA, zv_sS, zv_sL, c, c2]
      exact q
  · intro o p x1 y1 x2 y2 z1 z2 z3
    have u1 : o < S.1 1 + 1 := y1
    have u2 : p < S.1 1 + 1 := y2
    by_cases c : o = S.1 1 <;> by_cases c2 : p = S.1 1
    · omega
    · by_cases c0 : r = 0
      · simp [x_oa, y_oa, za_sA, za_sS, za_sL, zv_sA, zv_sS, zv_sL, c2] at z2
        simp [x_oa, y_oa, za_sA, za_sS, za_sL, zv_sA, zv_sS, zv_sL, c, c2] at z3
        exact absurd ⟨z2, z3.symm⟩ ((hr c0).2 p x2 (by omega))
      · simp [x_oa, y_oa, za_sA, za_sS, za_sL, zv_sA, zv_sS, zv_sL, c, c0] at z1
    · by_cases c0 : r = 0
      · simp [x_oa, y_oa, za_sA, za_sS, za_sL, zv_sA, zv_sS, zv_sL, c] at z1
        simp [x_oa, y_oa, za_sA, za_sS, za_sL, zv_sA, zv_sS, zv_sL, c, c2] at z3
        exact absurd ⟨z1, z3⟩ ((hr c0).2 o x1 (by omega))
      · simp [x_oa, y_oa, za_sA, za_sS, za_sL, zv_sA, zv_sS, zv_sL, c2, c0] at z2
    · simp [x_oa, y_oa, za_sA, za_sS, za_sL, zv_sA, zv_sS, zv_sL, c] at z1
      simp [x_oa, y_oa, za_sA, za_sS, za_sL, zv_sA, zv_sS, zv_sL, c2] at z2
      simp [x_oa, y_oa, za_sA, za_sS, za_sL, zv_sA, zv_sS, zv_sL, c, c2] at z3
      exact h.uniq o p x1 (by omega) x2 (by omega) z1 z2 z3
  · rw [show z_ct (zdone ((x_oa S f k d m r).2.1 19)) ((x_oa S f k d m r).1 1).toNat = z_ct (zdone (S.2.1 19)) (S.1 1).toNat from ct_oa (q := zdone) h.ordr.1 (fun A B k e => by unfold zdone; rw [e]) (fun A k e => by unfold zdone; rcases e with e | e <;> rw [e] <;> rfl)]
    exact h.hisr
  · rw [show z_ct (zdone ((x_oa S f k d m r).2.1 19)) ((x_oa S f k d m r).1 1).toNat = z_ct (zdone (S.2.1 19)) (S.1 1).toNat from ct_oa (q := zdone) h.ordr.1 (fun A B k e => by unfold zdone; rw [e]) (fun A k e => by unfold zdone; rcases e with e | e <;> rw [e] <;> rfl), show z_ct (zback ((x_oa S f k d m r).2.1 19)) ((x_oa S f k d m r).1 1).toNat = z_ct (zback (S.2.1 19)) (S.1 1).toNat from ct_oa (q := zback) h.ordr.1 (fun A B k e => by unfold zback; rw [e]) (fun A k e => by unfold zback; rcases e with e | e <;> rw [e] <;> rfl)]
    exact h.phi
  · intro k9 b9 c9
    obtain ⟨o, q1, q2, q3⟩ := h.awo k9 b9 c9
    have hne : ¬ (o : Int) = S.1 1 := by omega
    refine ⟨o, show (o : Int) < S.1 1 + 1 by omega, ?_, ?_⟩
    · unfold zdone at q2 ⊢
      simp [x_oa, y_oa, za_sA, za_sS, za_sL, zv_sA, zv_sS, zv_sL, hne]
      simp at q2
      exact q2
    · simp [x_oa, y_oa, za_sA, za_sS, za_sL, zv_sA, zv_sS, zv_sL, hne]
      exact q3
