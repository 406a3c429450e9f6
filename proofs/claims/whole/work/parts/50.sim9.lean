/-! ===== the simulation: why, hop ===== -/
theorem yC_cong {T U : zS} (u40 : U.2.1 40 = T.2.1 40) (u41 : U.2.1 41 = T.2.1 41) (u56 : U.2.1 56 = T.2.1 56) (u57 : U.2.1 57 = T.2.1 57) (u58 : U.2.1 58 = T.2.1 58) (C : yC T) : yC U := by
  refine ⟨fun f a b => by rw [u58]; exact C.1 f a b, fun n k => ?_, fun f a b => by rw [u41]; exact C.2.2.1 f a b, fun b x y => by rw [u40]; exact C.2.2.2 b x y⟩
  rw [y_last_cong (S := T) (T := U) (fun j => by rw [u56]) (fun j => by rw [u57])]
  exact C.2.1 n k
theorem zRel.cls0 {n : Nat} {S S' T : zS} (h : zRel n S T) (h1 : ∀ i, i < 4 → S'.1 i = S.1 i) (h2 : ∀ k, k < 39 → S'.2.1 k = S.2.1 k) : zRel n S' T := by
  have g : ∀ f : Int, 0 ≤ f → f < 6 → S'.2.1 (30 + f.toNat) = S.2.1 (30 + f.toNat) := fun f a b => h2 _ (by omega)
  refine ⟨?_, ?_, ?_, ?_, ?_, ?_, ?_, ?_, ?_, ?_, ?_, ?_, ?_, ?_, ?_, ?_, ?_, ?_, ?_, ?_, ?_, ?_, ?_, ?_, ?_, ?_, ?_, ?_, ?_, ?_, ?_, ?_, ?_⟩ <;> (try rw [h1 0 (by omega)]) <;> (try rw [h1 1 (by omega)]) <;> (try rw [h1 2 (by omega)]) <;> (try rw [h1 3 (by omega)])
  all_goals (try rw [h2 8 (by omega)])
  all_goals (try rw [h2 9 (by omega)])
  all_goals (try rw [h2 10 (by omega)])
  all_goals (try rw [h2 11 (by omega)])
  all_goals (try rw [h2 12 (by omega)])
  all_goals (try rw [h2 13 (by omega)])
  all_goals (try rw [h2 14 (by omega)])
  all_goals (try rw [h2 15 (by omega)])
  all_goals (try rw [h2 16 (by omega)])
  all_goals (try rw [h2 17 (by omega)])
  all_goals (try rw [h2 18 (by omega)])
  all_goals (try rw [h2 19 (by omega)])
  all_goals (try rw [h2 20 (by omega)])
  all_goals (try rw [h2 21 (by omega)])
  all_goals (try rw [h2 22 (by omega)])
  all_goals (try rw [h2 23 (by omega)])
  all_goals (try rw [h2 24 (by omega)])
  all_goals (try rw [h2 25 (by omega)])
  all_goals (try rw [h2 26 (by omega)])
  all_goals (try rw [h2 27 (by omega)])
  all_goals (try rw [h2 28 (by omega)])
  all_goals (try rw [h2 36 (by omega)])
  all_goals (try rw [h2 37 (by omega)])
  all_goals (try rw [h2 38 (by omega)])
  · exact h.now
  · exact h.nowr
  · exact h.ord
  · exact h.ordr
  · exact h.chg
  · exact h.chgr
  · exact h.hold
  · exact h.gone
  · exact h.down
  · exact h.lag
  · exact h.acc
  · exact h.lrn
  · exact h.serv
  · exact h.secr
  · exact h.quar
  · exact h.sile
  · exact h.call
  · exact h.last
  · exact h.lastn
  · exact h.held
  · exact h.cat
  · exact h.to6
  · exact h.ords
  · exact h.ordv
  · exact h.ordw
  · exact h.ordd
  · exact h.uniq
  · exact fun f n a b c d => by rw [g f a b]; exact h.tab f n a b c d
  · exact h.repl
  · exact h.hisr
  · exact h.phi
  · exact h.stay
  · exact h.awo
/-- S: the class's part alone counts, and of it not the route -/
theorem zRel.cls2 {n : Nat} {S S' T : zS} (h : zRel n S T) (h1 : ∀ i, i < 4 → S'.1 i = S.1 i) (h2 : ∀ k, k < 39 → S'.2.1 k = S.2.1 k) : zRel n S' T :=
  h.cls0 h1 h2
/-- what a call leaves -/
theorem tc_after {n9 : Nat} {S : zS} (h : zInv n9 S) {a b c v : Int} (ha : 0 ≤ a ∧ a < 6) (hb : 0 ≤ b ∧ b < 200) :
    (x_tc S a b c).2 = (y_tc (z_sS (z_sL (x_tc S a b c).1 v) 5 0) a b c).2 ∧ (x_tc S a b c).1.1 4 = (y_tc (z_sS (z_sL (x_tc S a b c).1 v) 5 0) a b c).1.1 9 ∧
    (∀ j : Int, 0 ≤ j → j < (x_tc S a b c).1.1 4 → (x_tc S a b c).1.2.1 39 j = (y_tc (z_sS (z_sL (x_tc S a b c).1 v) 5 0) a b c).1.2.1 62 j) ∧
    yC (z_sL (x_tc S a b c).1 v) ∧ zInv n9 (y_tc (z_sS (z_sL (x_tc S a b c).1 v) 5 0) a b c).1 ∧ (y_tc (z_sS (z_sL (x_tc S a b c).1 v) 5 0) a b c).1.1 5 = 0 ∧ (y_tc (z_sS (z_sL (x_tc S a b c).1 v) 5 0) a b c).1.2.2 = v := by
  obtain ⟨f1, f2, f3, -, -⟩ := x_tc_fr (w := c) ha hb h.xR2'
  have g : ∀ k, k ≠ 39 → (x_tc S a b c).1.2.1 k = S.2.1 k := fun k hk => funext fun j => f2 k j hk
  have C1 : yC (z_sL (x_tc S a b c).1 v) := yC_cong (T := S) (g 40 (by omega)) (g 41 (by omega)) (g 56 (by omega)) (g 57 (by omega)) (g 58 (by omega)) h.yC'
  have C2 : yC (z_sS (z_sL (x_tc S a b c).1 v) 5 0) := yC_cong (T := z_sL (x_tc S a b c).1 v) rfl rfl rfl rfl rfl C1
  obtain ⟨e1, e2, e3⟩ := tc_eq h (U := z_sS (z_sL (x_tc S a b c).1 v) 5 0) (g 40 (by omega)) (g 41 (by omega)) (g 42 (by omega)) (g 56 (by omega)) (g 57 (by omega)) (g 58 (by omega)) C2 (w := c) ha hb
  obtain ⟨k1, k2, k3, -, -⟩ := y_tc_fr (S := z_sS (z_sL (x_tc S a b c).1 v) 5 0) (w := c) ha hb C2
  refine ⟨e1, e2, e3, C1, ?_, by rw [k1 5 (by omega)]; rfl, by rw [k3]; rfl⟩
  have gs : ∀ i, i ≠ 9 → i ≠ 5 → i ≠ 4 → (y_tc (z_sS (z_sL (x_tc S a b c).1 v) 5 0) a b c).1.1 i = S.1 i := fun i h9 h5 h4 => by
    rw [k1 i h9]
    show (if i = 5 then 0 else (x_tc S a b c).1.1 i) = S.1 i
    rw [if_neg h5, f1 i h4]
  have ga : ∀ k, k ≠ 62 → k ≠ 39 → (y_tc (z_sS (z_sL (x_tc S a b c).1 v) 5 0) a b c).1.2.1 k = S.2.1 k := fun k h62 h39 => funext fun j => by
    rw [k2 k j h62]
    exact f2 k j h39
  exact (h.cls2 (fun i hi => gs i (by omega) (by omega) (by omega)) (fun k hk => ga k (by omega) (by omega))).mdl (fun i h6 h9 => gs i (by omega) (by omega) (by omega)) (fun k h40 h62 => ga k (by omega) (by omega))
theorem sim_why : st_why zInv := by
  intro n S a b c hn h ha hb hc
  have hw := w_why (o := o_why S a b c) (c_why h.xR2')
  by_cases e0 : ¬ ((0 ≤ a ∧ a < 6) ∧ (0 ≤ b ∧ b < 200))
  · have e : o_why S a b c = (.error xI, S) := by unfold o_why; exact if_pos e0
    exact sim_err (k := 1) h (hw (z_she e (by decide +kernel))) e (by decide +kernel) (by decide) (t_why h.yC') (by unfold p_why; exact if_pos e0)
  · by_cases e1 : ¬ (0 ≤ c ∧ c ≤ 2)
    · have e : o_why S a b c = (.error xA, S) := by unfold o_why; exact (if_neg e0).trans (if_pos e1)
      exact sim_err (k := 2) h (hw (z_she e (by decide +kernel))) e (by decide +kernel) (by decide) (t_why h.yC') (by unfold p_why; exact (if_neg e0).trans (if_pos e1))
    · have e : o_why S a b c = (zI? (x_tc S a b c).2, (x_tc S a b c).1) := by unfold o_why; exact (if_neg e0).trans (if_neg e1)
      obtain ⟨t1, t2, t3, t4, t5, t6, t7⟩ := tc_after h (c := c) (v := (x_tc S a b c).2) (show 0 ≤ a ∧ a < 6 by omega) (show 0 ≤ b ∧ b < 200 by omega)
      exact sim_ok (S2 := (y_tc (z_sS (z_sL (x_tc S a b c).1 (x_tc S a b c).2) 5 0) a b c).1) (hw (z_shk e)) e (t_why t4) (by unfold p_why; exact (if_neg e0).trans ((if_neg e1).trans (Prod.ext t1.symm rfl))) t6 t7 t5.up
theorem sim_hop : st_hop zInv := by
  intro n S a b c d hn h ha hb hc hd
  have hw := w_hop (o := o_hop S a b c d) (c_hop h.xR2')
  by_cases e0 : ¬ ((0 ≤ a ∧ a < 6) ∧ (0 ≤ b ∧ b < 200) ∧ 0 ≤ d)
  · have e : o_hop S a b c d = (.error xI, S) := by unfold o_hop; exact if_pos e0
    exact sim_err (k := 1) h (hw (z_she e (by decide +kernel))) e (by decide +kernel) (by decide) (t_hop h.yC') (by unfold p_hop; exact if_pos e0)
  · by_cases e1 : ¬ (0 ≤ c ∧ c ≤ 2)
    · have e : o_hop S a b c d = (.error xA, S) := by unfold o_hop; exact (if_neg e0).trans (if_pos e1)
      exact sim_err (k := 2) h (hw (z_she e (by decide +kernel))) e (by decide +kernel) (by decide) (t_hop h.yC') (by unfold p_hop; exact (if_neg e0).trans (if_pos e1))
    · have e : o_hop S a b c d = (zI? (x_hop (x_tc S a b c).1 d), (x_tc S a b c).1) := by unfold o_hop; exact (if_neg e0).trans (if_neg e1)
      obtain ⟨t1, t2, t3, t4, t5, t6, t7⟩ := tc_after h (c := c) (v := x_hop (x_tc S a b c).1 d) (show 0 ≤ a ∧ a < 6 by omega) (show 0 ≤ b ∧ b < 200 by omega)
      have key : y_hop (y_tc (z_sS (z_sL (x_tc S a b c).1 (x_hop (x_tc S a b c).1 d)) 5 0) a b c).1 d = x_hop (x_tc S a b c).1 d := by
        generalize (y_tc (z_sS (z_sL (x_tc S a b c).1 (x_hop (x_tc S a b c).1 d)) 5 0) a b c).1 = Y at t2 t3 t5 t6 t7
        unfold y_hop x_hop
        rw [← t2]
        by_cases q : d < (x_tc S a b c).1.1 4
        · rw [if_pos q, if_pos ⟨by omega, q⟩, t3 d (by omega) q]
        · rw [if_neg q, if_neg (fun z => q z.2)]
      exact sim_ok (S2 := (y_tc (z_sS (z_sL (x_tc S a b c).1 (x_hop (x_tc S a b c).1 d)) 5 0) a b c).1) (hw (z_shk e)) e (t_hop t4) (by unfold p_hop; exact (if_neg e0).trans ((if_neg e1).trans (Prod.ext key rfl))) t6 t7 t5.up
