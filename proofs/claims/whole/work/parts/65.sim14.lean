theorem zB.e1 {v9 : Int} {U X T : zS} (b : zB v9 U X T) {f h : Int} {i : Nat} : zB v9 (y_e1 U f h i) X (y_e1 T f h i) ∧ y_e1n U f i = y_e1n T f i := by
  unfold y_e1 y_e1n
  rw [b.r (k := 42) (by omega) (by omega), b.r (k := 40) (by omega) (by omega)]
  refine ⟨?_, rfl⟩
  have b2 := (b.sA (k := 42) (i := i) (v := h) (by omega)).sA (k := 47) (i := i) (v := -1) (by omega)
  (repeat' split) <;> first | exact b2 | exact b2.chg | exact b.chg | exact b
theorem zB.el {v9 : Int} {X : zS} {f h : Int} : ∀ (k i : Nat) (U T : zS), zB v9 U X T → zB v9 (y_el U f h i k) X (y_el T f h i k) ∧ y_en2 U f h i k = y_en2 T f h i k
  | 0, i, U, T, b => by
    rw [y_el_0, y_el_0, y_en2_0, y_en2_0]
    exact ⟨b, rfl⟩
  | k + 1, i, U, T, b => by
    obtain ⟨g1, g2⟩ := b.e1 (f := f) (h := h) (i := i)
    obtain ⟨k1, k2⟩ := zB.el (f := f) (h := h) k (i + 1) _ _ g1
    rw [y_el_s, y_el_s, y_en2_s, y_en2_s, g2, k2]
    exact ⟨k1, rfl⟩
theorem zB.bl {v9 : Int} {X : zS} {f h : Int} : ∀ (k i : Nat) (U T : zS), zB v9 U X T → zB v9 (x_fold (y_bl1 f h) i k U) X (x_fold (y_bl1 f h) i k T)
  | 0, _, _, _, b => b
  | k + 1, i, U, T, b => by
    rw [x_fold_s, x_fold_s]
    refine zB.bl k (i + 1) _ _ ?_
    unfold y_bl1
    rw [b.r (k := 40) (by omega) (by omega)]
    exact b.sA (by omega)
theorem zB.cl {v9 : Int} {X : zS} {f : Int} : ∀ (k i : Nat) (U T : zS), zB v9 U X T → zB v9 (x_fold (y_cl1 f) i k U) X (x_fold (y_cl1 f) i k T)
  | 0, _, _, _, b => b
  | k + 1, i, U, T, b => by
    rw [x_fold_s, x_fold_s]
    refine zB.cl k (i + 1) _ _ ?_
    unfold y_cl1
    rw [b.r (k := 48) (by omega) (by omega), b.r (k := 51) (by omega) (by omega)]
    exact b.sA (by omega)
theorem sim_endFirm : st_endFirm zInv := by
  intro n S a b hn h ha hb
  have ho := h.ordr
  have ho2 := h.ord
  have hc := h.chg540
  have hc0 := h.chgr
  have hc2 := h.chg
  have hh := h.his572 hn
  have hw := w_endFirm (o := o_endFirm S (S.1 1).toNat a b) (c_endFirm2 (by omega) (by omega) h.chgr (fun f1 f2 f3 f4 f5 => by
    obtain ⟨q1, q2, q3, q4, q5⟩ := ef_facts h f3 f2
    have r := rel_endFirm h f3 f1 f2 f4 f5 q1 q2 q3
    have r2 := r.chg540
    have e2 := q1.2.2.1
    omega) (by omega))
  have tt : ∀ {U : zS}, U.1 7 = S.1 7 → U.1 8 = S.1 8 → U.2.1 41 = S.2.1 41 → z_Ret mX7_endFirm [zR 7, zI a, zI b] U (p_endFirm U (S.1 1).toNat a b) := fun {U} u7 u8 u41 => t_endFirm (by rw [u7]; omega) (by omega) (by rw [u8]; omega) (fun f x y => by rw [u41]; exact h.gone' f x y)
  by_cases e0 : ¬ ((0 ≤ a ∧ a < 6) ∧ (0 ≤ b ∧ b < 6))
  · have e : o_endFirm S (S.1 1).toNat a b = (.error xI, S) := by unfold o_endFirm; exact if_pos e0
    exact sim_err (k := 1) h (hw (z_she e (by decide +kernel))) e (by decide +kernel) (by decide) (tt rfl rfl rfl) (by unfold p_endFirm; exact if_pos e0)
  · have ga := h.gone a (by omega) (by omega)
    have gb := h.gone b (by omega) (by omega)
    by_cases e1 : a = b
    · have e : o_endFirm S (S.1 1).toNat a b = (.error xA, S) := by unfold o_endFirm; exact (if_neg e0).trans (if_pos e1)
      exact sim_err (k := 2) h (hw (z_she e (by decide +kernel))) e (by decide +kernel) (by decide) (tt rfl rfl rfl) (by unfold p_endFirm; exact (if_neg e0).trans (if_pos e1))
    · by_cases e2 : ¬ S.2.1 9 a = 0 ∨ ¬ S.2.1 9 b = 0
      · have e : o_endFirm S (S.1 1).toNat a b = (.error xS, S) := by unfold o_endFirm; exact (if_neg e0).trans ((if_neg e1).trans (if_pos e2))
        exact sim_err (k := 3) h (hw (z_she e (by decide +kernel))) e (by decide +kernel) (by decide) (tt rfl rfl rfl) (by unfold p_endFirm; exact (if_neg e0).trans ((if_neg e1).trans (if_pos (show ¬ S.2.1 41 a = 0 ∨ ¬ S.2.1 41 b = 0 by omega))))
      · obtain ⟨q1, q2, q3, q4, q5⟩ := ef_facts h e1 (show 0 ≤ b ∧ b < 6 by omega)
        have r := rel_endFirm h e1 (by omega) (by omega) (by omega) (by omega) q1 q2 q3
        have e : o_endFirm S (S.1 1).toNat a b = (zI? (y_en2 (z_sA S 41 a 1) a b 0 200), x_ef S (S.1 1).toNat a b) := by
          rw [← q5]
          unfold o_endFirm
          exact (if_neg e0).trans ((if_neg e1).trans (if_neg e2))
        have f : zCf (x_ef S (S.1 1).toNat a b) S := ⟨fun i hi => q1.1 i (by omega) (by omega), fun k hk => q1.2.2.2.1 k (by omega) (by omega) (by omega) (by omega) (by omega) (by omega) (by omega) (by omega) (by omega) (by omega) (by omega)⟩
        generalize x_ef S (S.1 1).toNat a b = X at e f r
        have f41 := f.2 41 (by omega)
        generalize ev : y_en2 (z_sA S 41 a 1) a b 0 200 = v at e
        obtain ⟨b1, bv⟩ := zB.el (f := a) (h := b) 200 0 _ _ ((f.b v).sA (k := 41) (i := a) (v := 1) (by omega))
        have b2 := zB.cl (f := a) (S.1 1).toNat 0 _ _ (zB.bl (f := a) (h := b) 20 0 _ _ b1)
        have b3 : zB v (y_ef (z_sS (z_sL X v) 5 0) (S.1 1).toNat a b) X (y_ef S (S.1 1).toNat a b) := b2
        refine sim_ok (S2 := y_ef (z_sS (z_sL X v) 5 0) (S.1 1).toNat a b) (hw (z_shk e)) e (tt (f.1 7 (by omega)) (f.1 8 (by omega)) f41) ?_ b3.2.2.1 b3.2.2.2 (b3.rel r)
        unfold p_endFirm
        refine (if_neg e0).trans ((if_neg e1).trans ((if_neg (show ¬ (¬ X.2.1 41 a = 0 ∨ ¬ X.2.1 41 b = 0) by rw [f41]; omega)).trans (Prod.ext ?_ rfl)))
        exact bv.trans ev
/-! ===== the simulation stands ===== -/
theorem z_sim : z_Sim zInv := ⟨sim_give, sim_giveBack, sim_assign, sim_end, sim_swap, sim_emergency, sim_endFirm, sim_order, sim_cancel, sim_reverse, sim_pass, sim_setLag, sim_setDown, sim_correct, sim_server, sim_serverAnew, sim_number, sim_of, sim_room, sim_firm, sim_known, sim_audit, sim_hop, sim_why, sim_dial, sim_minute, fun _ _ h => h.up⟩
