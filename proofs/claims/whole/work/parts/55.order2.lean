/-! ===== the simulation: order, the call ===== -/
theorem sim_order : st_order zInv := by
  intro n S a b c d hn h ha hb hc hd
  have ho := h.ordr
  have ho2 := h.ord
  have hnow := h.now
  have hnr := h.nowr
  have hw := w_order (o := o_order S (S.1 1).toNat a b c d) (c_order (by omega) (by omega) h.nowr)
  have tt : ∀ {U : zS}, U.1 7 = S.1 7 → yM U → U.2.1 41 = S.2.1 41 → z_Ret mX7_order [zR 7, zI a, zI b, zI c, zI d] U (p_order U (S.1 1).toNat a b c d) := fun {U} u7 uM u41 => t_order (by rw [u7]; omega) (by omega) uM (fun f x y => by rw [u41]; exact h.gone' f x y)
  by_cases e0 : ¬ ((0 ≤ a ∧ a < 6) ∧ (0 ≤ b ∧ b < 200))
  · have e : o_order S (S.1 1).toNat a b c d = (.error xI, S) := by unfold o_order; exact if_pos e0
    exact sim_err (k := 1) h (hw (z_she e (by decide +kernel))) e (by decide +kernel) (by decide) (tt rfl h.yM' rfl) (by unfold p_order; exact if_pos e0)
  · have hs := h.serv b (by omega) (by omega)
    have hg := h.gone a (by omega) (by omega)
    by_cases e1 : ¬ (0 ≤ c ∧ c < 100) ∨ d ≤ S.1 0 ∨ S.1 0 + 500 < d
    · have e : o_order S (S.1 1).toNat a b c d = (.error xA, S) := by unfold o_order; exact (if_neg e0).trans (if_pos e1)
      exact sim_err (k := 2) h (hw (z_she e (by decide +kernel))) e (by decide +kernel) (by decide) (tt rfl h.yM' rfl) (by unfold p_order; exact (if_neg e0).trans (if_pos (show ¬ (0 ≤ c ∧ c < 100) ∨ d ≤ S.1 6 ∨ S.1 6 + 500 < d by omega)))
    · by_cases e2 : ¬ S.2.1 9 a = 0 ∨ 60 ≤ S.1 1
      · have e : o_order S (S.1 1).toNat a b c d = (.error xS, S) := by unfold o_order; exact (if_neg e0).trans ((if_neg e1).trans (if_pos e2))
        exact sim_err (k := 3) h (hw (z_she e (by decide +kernel))) e (by decide +kernel) (by decide) (tt rfl h.yM' rfl) (by unfold p_order; exact (if_neg e0).trans ((if_neg (show ¬ (¬ (0 ≤ c ∧ c < 100) ∨ d ≤ S.1 6 ∨ S.1 6 + 500 < d) by omega)).trans (if_pos (show ¬ S.2.1 41 a = 0 ∨ S.1 7 = 60 by omega))))
      · have e : o_order S (S.1 1).toNat a b c d = (zI? (S.1 1), x_oa S a b (S.2.1 13 b) d (x_rr S (S.1 1).toNat a b c d)) := by unfold o_order; exact (if_neg e0).trans ((if_neg e1).trans (if_neg e2))
        have hrr := rr_eq h (U := (z_sS (z_sL (x_oa S a b (S.2.1 13 b) d (x_rr S (S.1 1).toNat a b c d)) (S.1 1)) 5 0)) rfl rfl rfl rfl rfl rfl rfl (f := a) (n := b) (t := c) (m := d) (by omega)
        have r := (rel_order h (f := a) (k := b) (d := S.2.1 13 b) (m := d) (r := x_rr S (S.1 1).toNat a b c d) (by omega) (by omega) (by omega) (by omega) (fun q => by
          obtain ⟨g1, g2⟩ := rr_0 q
          refine ⟨g1, fun o x y z => ?_⟩
          have g3 := wf_free g2 o.toNat (by omega)
          rw [show ((o.toNat : Nat) : Int) = o by omega] at g3
          exact g3 z)).up
        exact sim_ok (S2 := y_oa (z_sS (z_sL (x_oa S a b (S.2.1 13 b) d (x_rr S (S.1 1).toNat a b c d)) (S.1 1)) 5 0) a b (S.2.1 13 b) d (x_rr S (S.1 1).toNat a b c d)) (hw (z_shk e)) e (tt rfl h.yM' rfl) (by
          unfold p_order
          refine (if_neg e0).trans ((if_neg (show ¬ (¬ (0 ≤ c ∧ c < 100) ∨ d ≤ S.1 6 ∨ S.1 6 + 500 < d) by omega)).trans ((if_neg (show ¬ (¬ S.2.1 41 a = 0 ∨ S.1 7 = 60) by omega)).trans (Prod.ext (show S.1 7 = S.1 1 by omega) ?_)))
          exact (congrArg (fun e9 => y_oa (z_sS (z_sL (x_oa S a b (S.2.1 13 b) d (x_rr S (S.1 1).toNat a b c d)) (S.1 1)) 5 0) a b e9 d (y_rr (z_sS (z_sL (x_oa S a b (S.2.1 13 b) d (x_rr S (S.1 1).toNat a b c d)) (S.1 1)) 5 0) (S.1 1).toNat a b c d)) hs.1.symm).trans (congrArg (fun e9 => y_oa (z_sS (z_sL (x_oa S a b (S.2.1 13 b) d (x_rr S (S.1 1).toNat a b c d)) (S.1 1)) 5 0) a b (S.2.1 13 b) d e9) hrr.symm)) rfl rfl ⟨r.now, r.nowr, r.ord, r.ordr, r.chg, r.chgr, r.hold, r.gone, r.down, r.lag, r.acc, r.lrn, r.serv, r.secr, r.quar, r.sile, r.call, r.last, r.lastn, r.held, r.cat, r.to6, r.ords, r.ordv, r.ordw, r.ordd, r.uniq, (fun f k x y z w => by have q := r.tab f k x y z w; (try unfold x_oa at q); (try unfold y_oa); (try unfold x_oa); (repeat (first | rw [za_ne (k' := 30 + f.toNat) (by omega)] at q | rw [za_sS] at q | rw [za_sL] at q)); (repeat (first | rw [za_ne (k' := 30 + f.toNat) (by omega)] | rw [za_sS] | rw [za_sL])); exact q), r.repl, r.hisr, r.phi, r.stay, r.awo⟩
