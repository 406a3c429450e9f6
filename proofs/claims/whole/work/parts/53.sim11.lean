/-! ===== the simulation: dial ===== -/
theorem zRel.money {n : Nat} {S S' T T' : zS} (h : zRel n S T) (h1 : ∀ i, i < 4 → S'.1 i = S.1 i) (h2 : ∀ k, k < 39 → k ≠ 12 → S'.2.1 k = S.2.1 k) (g1 : ∀ i, 6 ≤ i → i < 9 → T'.1 i = T.1 i) (g2 : ∀ k, 40 ≤ k → k < 61 → T'.2.1 k = T.2.1 k) (ha : ∀ f : Int, 0 ≤ f → f < 6 → S'.2.1 12 f = T'.2.1 61 f) : zRel n S' T' := by
  have g : ∀ f : Int, 0 ≤ f → f < 6 → S'.2.1 (30 + f.toNat) = S.2.1 (30 + f.toNat) := fun f a b => h2 _ (by omega) (by omega)
  refine ⟨?_, ?_, ?_, ?_, ?_, ?_, ?_, ?_, ?_, ?_, ?_, ?_, ?_, ?_, ?_, ?_, ?_, ?_, ?_, ?_, ?_, ?_, ?_, ?_, ?_, ?_, ?_, ?_, ?_, ?_, ?_, ?_, ?_⟩ <;> (try rw [h1 0 (by omega)]) <;> (try rw [h1 1 (by omega)]) <;> (try rw [h1 2 (by omega)]) <;> (try rw [h1 3 (by omega)]) <;> (try rw [g1 6 (by omega) (by omega)]) <;> (try rw [g1 7 (by omega) (by omega)]) <;> (try rw [g1 8 (by omega) (by omega)])
  all_goals (try rw [h2 8 (by omega) (by omega)])
  all_goals (try rw [h2 9 (by omega) (by omega)])
  all_goals (try rw [h2 10 (by omega) (by omega)])
  all_goals (try rw [h2 11 (by omega) (by omega)])
  all_goals (try rw [h2 13 (by omega) (by omega)])
  all_goals (try rw [h2 14 (by omega) (by omega)])
  all_goals (try rw [h2 15 (by omega) (by omega)])
  all_goals (try rw [h2 16 (by omega) (by omega)])
  all_goals (try rw [h2 17 (by omega) (by omega)])
  all_goals (try rw [h2 18 (by omega) (by omega)])
  all_goals (try rw [h2 19 (by omega) (by omega)])
  all_goals (try rw [h2 20 (by omega) (by omega)])
  all_goals (try rw [h2 21 (by omega) (by omega)])
  all_goals (try rw [h2 22 (by omega) (by omega)])
  all_goals (try rw [h2 23 (by omega) (by omega)])
  all_goals (try rw [h2 24 (by omega) (by omega)])
  all_goals (try rw [h2 25 (by omega) (by omega)])
  all_goals (try rw [h2 26 (by omega) (by omega)])
  all_goals (try rw [h2 27 (by omega) (by omega)])
  all_goals (try rw [h2 28 (by omega) (by omega)])
  all_goals (try rw [h2 36 (by omega) (by omega)])
  all_goals (try rw [h2 37 (by omega) (by omega)])
  all_goals (try rw [h2 38 (by omega) (by omega)])
  all_goals (try rw [g2 40 (by omega) (by omega)])
  all_goals (try rw [g2 41 (by omega) (by omega)])
  all_goals (try rw [g2 42 (by omega) (by omega)])
  all_goals (try rw [g2 43 (by omega) (by omega)])
  all_goals (try rw [g2 44 (by omega) (by omega)])
  all_goals (try rw [g2 45 (by omega) (by omega)])
  all_goals (try rw [g2 46 (by omega) (by omega)])
  all_goals (try rw [g2 47 (by omega) (by omega)])
  all_goals (try rw [g2 48 (by omega) (by omega)])
  all_goals (try rw [g2 49 (by omega) (by omega)])
  all_goals (try rw [g2 50 (by omega) (by omega)])
  all_goals (try rw [g2 51 (by omega) (by omega)])
  all_goals (try rw [g2 52 (by omega) (by omega)])
  all_goals (try rw [g2 53 (by omega) (by omega)])
  all_goals (try rw [g2 54 (by omega) (by omega)])
  all_goals (try rw [g2 55 (by omega) (by omega)])
  all_goals (try rw [g2 56 (by omega) (by omega)])
  all_goals (try rw [g2 57 (by omega) (by omega)])
  all_goals (try rw [g2 58 (by omega) (by omega)])
  all_goals (try rw [g2 59 (by omega) (by omega)])
  all_goals (try rw [g2 60 (by omega) (by omega)])
  · exact h.now
  · exact h.nowr
  · exact h.ord
  · exact h.ordr
  · exact h.chg
  · exact h.chgr
  · exact h.hold
  · exact h.gone
  · exact h.down
  · exact h.lag
  · exact ha
  · exact h.lrn
  · exact h.serv
  · exact h.secr
  · exact h.quar
  · exact h.sile
  · exact h.call
  · exact h.last
  · exact h.lastn
  · exact h.held
  · exact h.cat
  · exact h.to6
  · exact h.ords
  · exact h.ordv
  · exact h.ordw
  · exact h.ordd
  · exact h.uniq
  · exact fun f n a b c d => by rw [g f a b]; exact h.tab f n a b c d
  · exact h.repl
  · exact h.hisr
  · exact h.phi
  · exact h.stay
  · exact h.awo
theorem sim_dial : st_dial zInv := by
  intro n S a b c hn h ha hb hc
  have hw := w_dial (o := o_dial S a b c) (c_dial h.xR2' (fun k x y => (h.serv k x y).2))
  have tt : ∀ {U : zS}, yC U → U.2.1 42 = S.2.1 42 → z_Ret mX7_dial [zR 7, zI a, zI b, zI c] U (p_dial U a b c) := fun {U} C u => t_dial C (fun k x y => by rw [u, ← (h.serv k x y).1]; exact (h.serv k x y).2)
  by_cases e0 : ¬ ((0 ≤ a ∧ a < 200) ∧ (0 ≤ b ∧ b < 200))
  · have e : o_dial S a b c = (.error xI, S) := by unfold o_dial; exact if_pos e0
    exact sim_err (k := 1) h (hw (z_she e (by decide +kernel))) e (by decide +kernel) (by decide) (tt h.yC' rfl) (by unfold p_dial; exact if_pos e0)
  · have hs := h.serv a (by omega) (by omega)
    by_cases e1 : ¬ (0 ≤ c ∧ c ≤ 2)
    · have e : o_dial S a b c = (.error xA, S) := by unfold o_dial; exact (if_neg e0).trans (if_pos e1)
      exact sim_err (k := 2) h (hw (z_she e (by decide +kernel))) e (by decide +kernel) (by decide) (tt h.yC' rfl) (by unfold p_dial; exact (if_neg e0).trans (if_pos e1))
    · by_cases e2 : S.2.1 13 a = -1
      · have e : o_dial S a b c = (.error xS, S) := by unfold o_dial; exact (if_neg e0).trans ((if_neg e1).trans (if_pos e2))
        exact sim_err (k := 3) h (hw (z_she e (by decide +kernel))) e (by decide +kernel) (by decide) (tt h.yC' rfl) (by unfold p_dial; exact (if_neg e0).trans ((if_neg e1).trans (if_pos (show S.2.1 42 a = -1 by omega))))
      · have hf : 0 ≤ S.2.1 13 a ∧ S.2.1 13 a < 6 := by omega
        have hb2 : 0 ≤ b ∧ b < 200 := by omega
        have e : o_dial S a b c = (zI? (x_tc S (S.2.1 13 a) b c).2, if (x_tc S (S.2.1 13 a) b c).2 = 0 then x_pf (x_tc S (S.2.1 13 a) b c).1 else (x_tc S (S.2.1 13 a) b c).1) := by unfold o_dial; exact (if_neg e0).trans ((if_neg e1).trans (if_neg e2))
        obtain ⟨f1, f2, f3, f4, f5⟩ := x_tc_fr (w := c) hf hb2 h.xR2'
        have hp : ∀ X : zS, (if (x_tc S (S.2.1 13 a) b c).2 = 0 then x_pf X else X).1 = X.1 ∧ ∀ q, q ≠ 12 → (if (x_tc S (S.2.1 13 a) b c).2 = 0 then x_pf X else X).2.1 q = X.2.1 q := fun X => by
          split
          · unfold x_pf
            split
            · exact ⟨rfl, fun _ _ => rfl⟩
            · obtain ⟨p1, p2, p3, p4⟩ := x_pfl_z (X.1 4 - 2).toNat 1 (x_pay X (X.2.1 39 0) (X.2.1 39 (X.1 4 - 1)) 3)
              exact ⟨p2, fun q hq => (p4 q hq).trans (x_pay_fr.2.2 q hq)⟩
          · exact ⟨rfl, fun _ _ => rfl⟩
        obtain ⟨p1, p2⟩ := hp (x_tc S (S.2.1 13 a) b c).1
        have ea : ∀ k, k ≠ 39 → (x_tc S (S.2.1 13 a) b c).1.2.1 k = S.2.1 k := fun k hk => funext fun j => f2 k j hk
        generalize hv : (x_tc S (S.2.1 13 a) b c).2 = v at *
        generalize hX : (x_tc S (S.2.1 13 a) b c).1 = X at *
        generalize hP : (if v = 0 then x_pf X else X) = P at *
        have g : ∀ k, k ≠ 39 → k ≠ 12 → P.2.1 k = S.2.1 k := fun k h39 h12 => (p2 k h12).trans (ea k h39)
        have C1 : yC (z_sL P v) := yC_cong (T := S) (g 40 (by omega) (by omega)) (g 41 (by omega) (by omega)) (g 56 (by omega) (by omega)) (g 57 (by omega) (by omega)) (g 58 (by omega) (by omega)) h.yC'
        have C2 : yC (z_sS (z_sL P v) 5 0) := yC_cong (T := z_sL P v) rfl rfl rfl rfl rfl C1
        obtain ⟨q1, q2, q3⟩ := tc_eq h (U := z_sS (z_sL P v) 5 0) (g 40 (by omega) (by omega)) (g 41 (by omega) (by omega)) (g 42 (by omega) (by omega)) (g 56 (by omega) (by omega)) (g 57 (by omega) (by omega)) (g 58 (by omega) (by omega)) C2 (w := c) hf hb2
        rw [hv] at q1
        rw [hX] at q2 q3
        obtain ⟨k1, k2, k3, -, -⟩ := y_tc_fr (S := z_sS (z_sL P v) 5 0) (w := c) hf hb2 C2
        have et : p_dial (z_sL P v) a b c = (v, if v = 0 then y_pf (y_tc (z_sS (z_sL P v) 5 0) (S.2.1 13 a) b c).1 else (y_tc (z_sS (z_sL P v) 5 0) (S.2.1 13 a) b c).1) := by
          have e42 : (z_sL P v).2.1 42 a = S.2.1 13 a := by show P.2.1 42 a = _; rw [g 42 (by omega) (by omega)]; omega
          unfold p_dial
          rw [if_neg e0, if_neg e1, e42, if_neg e2, ← q1]
        generalize (y_tc (z_sS (z_sL P v) 5 0) (S.2.1 13 a) b c).1 = Y at *
        have ys : ∀ i, i ≠ 9 → i ≠ 5 → i ≠ 4 → Y.1 i = S.1 i := fun i h9 h5 h4 => by
          rw [k1 i h9]
          show (if i = 5 then 0 else P.1 i) = S.1 i
          rw [if_neg h5, p1, f1 i h4]
        have ya : ∀ k, k ≠ 62 → Y.2.1 k = P.2.1 k := fun k h62 => funext fun j => k2 k j h62
        have z : ∀ W : zS, W.1 = Y.1 ∧ W.2.2 = Y.2.2 ∧ (∀ q, q ≠ 61 → W.2.1 q = Y.2.1 q) → (∀ f : Int, 0 ≤ f → f < 6 → P.2.1 12 f = W.2.1 61 f) → W.1 5 = 0 ∧ W.2.2 = v ∧ zInv (n + 1) W := fun W ⟨w1, w2, w3⟩ wa => by
          refine ⟨by rw [w1, k1 5 (by omega)]; rfl, by rw [w2, k3]; rfl, ?_⟩
          refine h.up.money (fun i hi => by rw [w1]; exact ys i (by omega) (by omega) (by omega)) (fun k hk h12 => by rw [w3 k (by omega), ya k (by omega)]; exact g k (by omega) h12) (fun i h6 h9 => by rw [w1]; exact ys i (by omega) (by omega) (by omega)) (fun k h40 h61 => by rw [w3 k (by omega), ya k (by omega)]; exact g k (by omega) (by omega)) (fun f x y => ?_)
          rw [w3 12 (by omega), ya 12 (by omega)]
          exact wa f x y
        have hacc : ∀ f : Int, 0 ≤ f → f < 6 → X.2.1 12 f = Y.2.1 61 f := fun f x y => by
          rw [ea 12 (by omega), ya 61 (by omega), g 61 (by omega) (by omega)]
          exact h.acc f x y
        by_cases c0 : v = 0
        · rw [if_pos c0] at et hP
          obtain ⟨w1, w2, w3⟩ := y_pfl_fr (len := (Y.1 9).toNat) ((Y.1 9).toNat - 1) 1 Y
          obtain ⟨r5, r6, r7⟩ := z (y_pf Y) ⟨w1, w2, w3⟩ (fun f x y => by
            rw [← hP]
            exact pf_eq q2 f4.1 (fun j u v => ⟨q3 j u v, f5 j u v⟩) hacc f x y)
          exact sim_ok (hw (z_shk e)) e (tt C1 (g 42 (by omega) (by omega))) et r5 r6 r7
        · rw [if_neg c0] at et hP
          obtain ⟨r5, r6, r7⟩ := z Y ⟨rfl, rfl, fun _ _ => rfl⟩ (fun f x y => by
            rw [← hP]
            exact hacc f x y)
          exact sim_ok (hw (z_shk e)) e (tt C1 (g 42 (by omega) (by omega))) et r5 r6 r7
