/-! ===== the simulation: giveBack, assign ===== -/
theorem bb_eq {n : Nat} {S T U : zS} (h : zRel n S T) (u6 : U.1 6 = T.1 6) (u42 : U.2.1 42 = T.2.1 42) (u44 : U.2.1 44 = T.2.1 44) : ∀ k i : Nat, i + k ≤ 200 → x_bb S i k = y_gb U i k
  | 0, _, _ => rfl
  | k + 1, i, hi => by
    have q1 := h.serv i (by omega) (by omega)
    have q2 := h.quar i (by omega) (by omega)
    have q3 := h.now
    have q4 := h.nowr
    rw [x_bb, y_gb, bb_eq h u6 u42 u44 k (i + 1) (by omega), u6, u42, u44]
    by_cases c : ¬ S.2.1 13 i = -1 ∨ S.1 0 ≤ S.2.1 15 i
    · rw [if_pos (by omega), decide_eq_true c]
      rfl
    · rw [if_neg (by omega), decide_eq_false c]
      rfl
theorem bb_free {S : zS} : ∀ k i : Nat, ¬ x_bb S i k = true → ∀ j : Nat, i ≤ j → j < i + k → S.2.1 13 j = -1
  | 0, _, _, j, a, b => absurd b (by omega)
  | k + 1, i, h, j, a, b => by
    rw [x_bb] at h
    simp only [Bool.or_eq_true, decide_eq_true_eq] at h
    by_cases e : j = i
    · subst e
      omega
    · exact bb_free k (i + 1) (fun q => h (.inr q)) j (by omega) (by omega)
theorem away_back {S : zS} {b f : Int} (hfree : ∀ j : Int, 0 ≤ j → j < 200 → j / 10 = b → S.2.1 13 j = -1) (k : Nat) (hk : k < 200) : zaway (S.2.1 13) ((z_sA S 8 b f).2.1 8) k = zaway (S.2.1 13) (S.2.1 8) k := by
  unfold zaway
  by_cases e : S.2.1 13 k = -1
  · simp [e]
  · have hne : ¬ (k : Int) / 10 = b := fun q => e (hfree k (by omega) (by omega) q)
    simp [za_sA, za_sS, za_sL, zv_sA, zv_sS, zv_sL, hne]
theorem rel_giveBack {n : Nat} {S T : zS} (h : zRel n S T) {b : Int} (hb : 0 ≤ b ∧ b < 20) (hfree : ∀ j : Int, 0 ≤ j → j < 200 → j / 10 = b → S.2.1 13 j = -1) : zRel n (z_sA S 8 b (-1)) (z_sA T 40 b (-1)) := by
  refine ⟨h.now, h.nowr, h.ord, h.ordr, h.chg, h.chgr, ?_, h.gone, h.down, h.lag, h.acc, h.lrn, h.serv, h.secr, h.quar, h.sile, h.call, h.last, h.lastn, ?_, h.cat, h.to6, h.ords, h.ordv, h.ordw, h.ordd, h.uniq, (fun f k x y z w => by have q := h.tab f k x y z w; (repeat (first | rw [za_ne (k' := 30 + f.toNat) (by omega)] at q | rw [za_sS] at q | rw [za_sL] at q)); (repeat (first | rw [za_ne (k' := 30 + f.toNat) (by omega)] | rw [za_sS] | rw [za_sL])); exact q), h.repl, h.hisr, ?_, h.stay, ?_⟩
  · intro k x y
    have q := h.hold k x y
    by_cases hk : k = b
    · simp [za_sA, za_sS, za_sL, zv_sA, zv_sS, zv_sL, hk]
    · simp [za_sA, za_sS, za_sL, zv_sA, zv_sS, zv_sL, hk]
      exact q
  · intro k x y z
    have q := h.held k x y z
    by_cases hk : k / 10 = b
    · exact absurd (hfree k x y hk) z
    · simp [za_sA, za_sS, za_sL, zv_sA, zv_sS, zv_sL, hk]
      exact q
  · rw [show z_ct (zaway ((z_sA S 8 b (-1)).2.1 13) ((z_sA S 8 b (-1)).2.1 8)) 200 = z_ct (zaway (S.2.1 13) (S.2.1 8)) 200 from z_ct_cong (fun k hk => away_back hfree k hk)]
    exact h.phi
  · intro k a c
    exact h.awo k a ((away_back (f := -1) hfree k a).symm.trans c)
theorem sim_giveBack : st_giveBack zInv := by
  intro n S a hn h ha
  have hw := w_giveBack (o := o_giveBack S a) c_giveBack
  have tt : ∀ {U : zS}, yM U → z_Ret mX7_giveBack [zR 7, zI a] U (p_giveBack U a) := fun {U} u => t_giveBack u
  by_cases e0 : ¬ (0 ≤ a ∧ a < 20)
  · have e : o_giveBack S a = (.error xI, S) := by unfold o_giveBack; exact if_pos e0
    exact sim_err (k := 1) h (hw (z_she e (by decide +kernel))) e (by decide +kernel) (by decide) (tt h.yM') (by unfold p_giveBack; exact if_pos e0)
  · have v1 := (h.hold a (by omega) (by omega)).1
    by_cases e1 : S.2.1 8 a = -1
    · have e : o_giveBack S a = (.error xS, S) := by unfold o_giveBack; exact (if_neg e0).trans (if_pos e1)
      exact sim_err (k := 2) h (hw (z_she e (by decide +kernel))) e (by decide +kernel) (by decide) (tt h.yM') (by unfold p_giveBack; exact (if_neg e0).trans (if_pos (show S.2.1 40 a = -1 by omega)))
    · by_cases e2 : x_bb S (10 * a.toNat) 10 = true
      · have e : o_giveBack S a = (.error xS, S) := by unfold o_giveBack; exact (if_neg e0).trans ((if_neg e1).trans (if_pos e2))
        exact sim_err (k := 2) h (hw (z_she e (by decide +kernel))) e (by decide +kernel) (by decide) (tt h.yM') (by unfold p_giveBack; exact (if_neg e0).trans ((if_neg (show ¬ S.2.1 40 a = -1 by omega)).trans (if_pos ((bb_eq h rfl rfl rfl 10 _ (by omega)).symm.trans e2))))
      · have e : o_giveBack S a = (zI? (S.2.1 8 a), z_sA S 8 a (-1)) := by unfold o_giveBack; exact (if_neg e0).trans ((if_neg e1).trans (if_neg e2))
        have r := (rel_giveBack h (b := a) (by omega) (fun j x y z => by
          have q := bb_free 10 (10 * a.toNat) e2 j.toNat (by omega) (by omega)
          rw [show ((j.toNat : Nat) : Int) = j by omega] at q
          exact q)).up
        have e3 : ¬ y_gb (z_sL (z_sA S 8 a (-1)) (S.2.1 8 a)) (10 * a.toNat) 10 = true := fun q => e2 ((bb_eq h (U := z_sL (z_sA S 8 a (-1)) (S.2.1 8 a)) rfl rfl rfl 10 _ (by omega)).trans q)
        exact sim_ok (S2 := z_sA (z_sS (z_sL (z_sA S 8 a (-1)) (S.2.1 8 a)) 5 0) 40 a (-1)) (hw (z_shk e)) e (tt h.yM') (by unfold p_giveBack; exact (if_neg e0).trans ((if_neg (show ¬ S.2.1 40 a = -1 by omega)).trans ((if_neg e3).trans (Prod.ext (show S.2.1 40 a = S.2.1 8 a by omega) rfl)))) rfl rfl ⟨r.now, r.nowr, r.ord, r.ordr, r.chg, r.chgr, r.hold, r.gone, r.down, r.lag, r.acc, r.lrn, r.serv, r.secr, r.quar, r.sile, r.call, r.last, r.lastn, r.held, r.cat, r.to6, r.ords, r.ordv, r.ordw, r.ordd, r.uniq, (fun f k x y z w => by have q := r.tab f k x y z w; (repeat (first | rw [za_ne (k' := 30 + f.toNat) (by omega)] at q | rw [za_sS] at q | rw [za_sL] at q)); (repeat (first | rw [za_ne (k' := 30 + f.toNat) (by omega)] | rw [za_sS] | rw [za_sL])); exact q), r.repl, r.hisr, r.phi, r.stay, r.awo⟩
