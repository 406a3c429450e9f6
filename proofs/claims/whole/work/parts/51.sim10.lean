/-! ===== the simulation: correct ===== -/
theorem x_la_at {f : Int} {a b : Int → Int} : ∀ (k i : Nat) (S : zS), S.2.1 26 = a → S.2.1 27 = b → (∀ n : Int, 0 ≤ n → n < 200 → S.2.1 (30 + f.toNat) n = zlast a b n i) →
    (x_la S f i k).1 = S.1 ∧ (x_la S f i k).2.2 = S.2.2 ∧ (∀ q, q ≠ 28 → q ≠ 30 + f.toNat → (x_la S f i k).2.1 q = S.2.1 q) ∧ (∀ j, (x_la S f i k).2.1 28 j = if j = f then ((i + k : Nat) : Int) else S.2.1 28 j) ∧ ∀ n : Int, 0 ≤ n → n < 200 → (x_la S f i k).2.1 (30 + f.toNat) n = zlast a b n (i + k)
  | 0, i, S, ha, hb, ht => by
    rw [x_la]
    refine ⟨rfl, rfl, fun q h1 h2 => funext fun j => za_ne h1, fun j => ?_, fun n x y => by rw [za_ne (by omega)]; exact ht n x y⟩
    rw [za_sA]
    simp
  | k + 1, i, S, ha, hb, ht => by
    have h := x_la_at (f := f) (a := a) (b := b) k (i + 1) (z_sA S (30 + f.toNat) (S.2.1 26 i) (S.2.1 27 i)) ((funext fun j => za_ne (by omega)).trans ha) ((funext fun j => za_ne (by omega)).trans hb) (fun n x y => by
      rw [za_sA, zlast, ha, hb]
      by_cases c : a i = n
      · rw [if_pos c, if_pos ⟨rfl, c.symm⟩]
      · rw [if_neg c, if_neg (fun q => c q.2.symm)]
        exact ht n x y)
    rw [x_la]
    obtain ⟨h1, h2, h3, h4, h5⟩ := h
    refine ⟨h1, h2, fun q a1 a2 => (h3 q a1 a2).trans (funext fun j => za_ne a2), fun j => ?_, fun n x y => ?_⟩
    · rw [h4 j, show i + 1 + k = i + (k + 1) by omega, za_ne (by omega)]
    · rw [h5 n x y, show i + 1 + k = i + (k + 1) by omega]
theorem sim_correct : st_correct zInv := by
  intro n S a hn h ha
  have hc := h.chg540
  have hc0 := h.chgr
  have hchg := h.chg
  have hw := w_correct (o := o_correct S (S.1 2).toNat a) (c_correct (by omega) (by omega) (fun f x y => (h.lrn f x y).2) (fun j x y => (h.cat j x y).2.2.2.1))
  have tt : ∀ {U : zS}, U.1 8 = S.1 8 → U.2.1 58 = S.2.1 58 → z_Ret mX7_correct [zR 7, zI a] U (p_correct U a) := fun {U} u8 u58 => t_correct (by rw [u8]; omega) (fun f x y => by
    rw [u8, u58, ← (h.lrn f x y).1, ← hchg]
    exact (h.lrn f x y).2)
  by_cases e0 : ¬ (0 ≤ a ∧ a < 6)
  · have e : o_correct S (S.1 2).toNat a = (.error xI, S) := by unfold o_correct; exact if_pos e0
    exact sim_err (k := 1) h (hw (z_she e (by decide +kernel))) e (by decide +kernel) (by decide) (tt rfl rfl) (by unfold p_correct; exact if_pos e0)
  · have hl := h.lrn a (by omega) (by omega)
    have e : o_correct S (S.1 2).toNat a = (zI? (S.1 2 - S.2.1 28 a), x_la S a (S.2.1 28 a).toNat ((S.1 2).toNat - (S.2.1 28 a).toNat)) := by unfold o_correct; exact if_neg e0
    obtain ⟨f1, f2, f3, f4, f5⟩ := x_la_at (f := a) (a := S.2.1 26) (b := S.2.1 27) ((S.1 2).toNat - (S.2.1 28 a).toNat) (S.2.1 28 a).toNat S rfl rfl (fun k x y => h.tab a k (by omega) (by omega) x y)
    generalize x_la S a (S.2.1 28 a).toNat ((S.1 2).toNat - (S.2.1 28 a).toNat) = X at e f1 f2 f3 f4 f5
    rw [show (S.2.1 28 a).toNat + ((S.1 2).toNat - (S.2.1 28 a).toNat) = (S.1 2).toNat by omega] at f4 f5
    have g : ∀ k, k ≠ 28 → ¬ (30 ≤ k ∧ k < 36) → X.2.1 k = S.2.1 k := fun k h1 h2 => f3 k h1 (by omega)
    have r : zRel (n + 1) X (z_sA S 58 a (S.1 8)) := by
      have h9 := h.up
      refine ⟨?_, ?_, ?_, ?_, ?_, ?_, ?_, ?_, ?_, ?_, ?_, ?_, ?_, ?_, ?_, ?_, ?_, ?_, ?_, ?_, ?_, ?_, ?_, ?_, ?_, ?_, ?_, ?_, ?_, ?_, ?_, ?_, ?_⟩ <;> (try rw [f1])
      all_goals (try rw [g 8 (by omega) (by omega)])
      all_goals (try rw [g 9 (by omega) (by omega)])
      all_goals (try rw [g 10 (by omega) (by omega)])
      all_goals (try rw [g 11 (by omega) (by omega)])
      all_goals (try rw [g 12 (by omega) (by omega)])
      all_goals (try rw [g 13 (by omega) (by omega)])
      all_goals (try rw [g 14 (by omega) (by omega)])
      all_goals (try rw [g 15 (by omega) (by omega)])
      all_goals (try rw [g 16 (by omega) (by omega)])
      all_goals (try rw [g 17 (by omega) (by omega)])
      all_goals (try rw [g 18 (by omega) (by omega)])
      all_goals (try rw [g 19 (by omega) (by omega)])
      all_goals (try rw [g 20 (by omega) (by omega)])
      all_goals (try rw [g 21 (by omega) (by omega)])
      all_goals (try rw [g 22 (by omega) (by omega)])
      all_goals (try rw [g 23 (by omega) (by omega)])
      all_goals (try rw [g 24 (by omega) (by omega)])
      all_goals (try rw [g 25 (by omega) (by omega)])
      all_goals (try rw [g 26 (by omega) (by omega)])
      all_goals (try rw [g 27 (by omega) (by omega)])
      all_goals (try rw [g 36 (by omega) (by omega)])
      all_goals (try rw [g 37 (by omega) (by omega)])
      all_goals (try rw [g 38 (by omega) (by omega)])
      · exact h9.now
      · exact h9.nowr
      · exact h9.ord
      · exact h9.ordr
      · exact h9.chg
      · exact h9.chgr
      · exact h9.hold
      · exact h9.gone
      · exact h9.down
      · exact h9.lag
      · exact h9.acc
      · intro f x y
        have q := h.lrn f x y
        rw [f4 f, za_sA]
        by_cases c : f = a
        · rw [if_pos c, if_pos ⟨rfl, c⟩]
          omega
        · rw [if_neg c, if_neg (fun z => c z.2)]
          exact q
      · exact h9.serv
      · exact h9.secr
      · exact h9.quar
      · exact h9.sile
      · exact h9.call
      · exact h9.last
      · exact h9.lastn
      · exact h9.held
      · exact h9.cat
      · exact h9.to6
      · exact h9.ords
      · exact h9.ordv
      · exact h9.ordw
      · exact h9.ordd
      · exact h9.uniq
      · intro f k x y z w
        rw [f4 f]
        by_cases c : f = a
        · subst c
          rw [if_pos rfl, f5 k z w]
          rfl
        · rw [if_neg c, f3 (30 + f.toNat) (by omega) (by omega)]
          exact h.tab f k x y z w
      · exact h9.repl
      · exact h9.hisr
      · exact h9.phi
      · exact h9.stay
      · exact h9.awo
    exact sim_ok (S2 := z_sA (z_sS (z_sL X (S.1 2 - S.2.1 28 a)) 5 0) 58 a (X.1 8)) (hw (z_shk e)) e (tt (by show X.1 8 = _; rw [f1]) (g 58 (by omega) (by omega))) (by unfold p_correct; exact (if_neg e0).trans (Prod.ext (show X.1 8 - X.2.1 58 a = S.1 2 - S.2.1 28 a by rw [f1, g 58 (by omega) (by omega)]; omega) rfl)) rfl rfl (by
      have q := r
      rw [show S.1 8 = X.1 8 by rw [f1]] at q
      refine (q.cls0 (S' := z_sA (z_sS (z_sL X (S.1 2 - S.2.1 28 a)) 5 0) 58 a (X.1 8)) (fun i hi => ?_) (fun k hk => ?_)).mdl (fun i h6 h9 => ?_) (fun k h40 h62 => ?_)
      · show (if i = 5 then 0 else X.1 i) = X.1 i
        rw [if_neg (by omega)]
      · funext j
        rw [za_ne (by omega), za_sS, za_sL]
      · show (if i = 5 then 0 else X.1 i) = S.1 i
        rw [if_neg (by omega), f1]
      · funext j
        rw [za_sA, za_sA, za_sS, za_sL, g k (by omega) (by omega)])
