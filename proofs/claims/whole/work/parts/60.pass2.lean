/-! ===== the simulation: pass, the networks learn ===== -/
theorem lu_ln {f m c : Int} {a b : Int → Int} : ∀ (k i : Nat) (S T : zS), S.2.1 26 = a → S.2.1 27 = b → (∀ n : Int, 0 ≤ n → n < 200 → S.2.1 (30 + f.toNat) n = zlast a b n i) → T.2.1 58 f = i → (∀ j : Int, 0 ≤ j → j < i + k → S.2.1 25 j = T.2.1 55 j) → m = T.1 6 - T.2.1 59 f →
    ∃ r : Nat, (i ≤ r ∧ r ≤ i + k) ∧ ((x_lu S f m i k).1 = S.1 ∧ (∀ q, q ≠ 28 → q ≠ 30 + f.toNat → (x_lu S f m i k).2.1 q = S.2.1 q) ∧ (∀ j, (x_lu S f m i k).2.1 28 j = if j = f then (r : Int) else S.2.1 28 j) ∧ ∀ n : Int, 0 ≤ n → n < 200 → (x_lu S f m i k).2.1 (30 + f.toNat) n = zlast a b n r) ∧
      ((y_ln T f k).1 = T.1 ∧ (∀ q, q ≠ 58 → (y_ln T f k).2.1 q = T.2.1 q) ∧ ∀ j, (y_ln T f k).2.1 58 j = if j = f then (r : Int) else T.2.1 58 j)
  | 0, i, S, T, ha, hb, ht, h58, hd, hm => by
    refine ⟨i, ⟨Nat.le_refl _, by omega⟩, ?_, ?_⟩
    · rw [x_lu]
      refine ⟨rfl, fun q h1 h2 => funext fun j => za_ne h1, fun j => ?_, fun n x y => by rw [za_ne (by omega)]; exact ht n x y⟩
      rw [za_sA]
      simp
    · rw [y_ln]
      refine ⟨rfl, fun q _ => rfl, fun j => ?_⟩
      by_cases c : j = f
      · rw [if_pos c, c, h58]
      · rw [if_neg c]
  | k + 1, i, S, T, ha, hb, ht, h58, hd, hm => by
    have hd0 := hd i (by omega) (by omega)
    rw [x_lu, y_ln, h58, ← hd0, ← hm]
    by_cases e : S.2.1 25 i ≤ m
    · rw [if_pos e, if_pos e]
      obtain ⟨r, hr, ⟨g1, g2, g3, g4⟩, k1, k2, k3⟩ := lu_ln (f := f) (m := m) (c := c) (a := a) (b := b) k (i + 1) (z_sA S (30 + f.toNat) (S.2.1 26 i) (S.2.1 27 i)) (z_sA T 58 f ((i : Int) + 1)) ((funext fun j => za_ne (by omega)).trans ha) ((funext fun j => za_ne (by omega)).trans hb) (fun n x y => by
        rw [za_sA, zlast, ha, hb]
        by_cases c : a i = n
        · rw [if_pos c, if_pos ⟨rfl, c.symm⟩]
        · rw [if_neg c, if_neg (fun q => c q.2.symm)]
          exact ht n x y) (by rw [za_eq]; omega) (fun j x y => by rw [za_ne (by omega), za_ne (by omega)]; exact hd j x (by omega)) (by rw [za_ne (by omega)]; exact hm)
      refine ⟨r, by omega, ⟨g1, fun q a1 a2 => (g2 q a1 a2).trans (funext fun j => za_ne a2), fun j => ?_, g4⟩, k1, fun q hq => (k2 q hq).trans (funext fun j => za_ne hq), fun j => ?_⟩
      · rw [g3 j, za_ne (by omega)]
      · rw [k3 j]
        by_cases c : j = f
        · rw [if_pos c, if_pos c]
        · rw [if_neg c, if_neg c, za_ni c]
    · rw [if_neg e, if_neg e]
      refine ⟨i, by omega, ⟨rfl, fun q h1 h2 => funext fun j => za_ne h1, fun j => ?_, fun n x y => by rw [za_ne (by omega)]; exact ht n x y⟩, rfl, fun q _ => rfl, fun j => ?_⟩
      · rw [za_sA]
        simp
      · by_cases c : j = f
        · rw [if_pos c, c, h58]
        · rw [if_neg c]
theorem zRel.learn {n : Nat} {S T X Y : zS} (h : zRel n S T) {f : Int} {r : Nat} (hf : 0 ≤ f ∧ f < 6) (hr : (r : Int) ≤ S.1 2) (f1 : X.1 = S.1) (f2 : ∀ q, q ≠ 28 → q ≠ 30 + f.toNat → X.2.1 q = S.2.1 q) (f3 : ∀ j, X.2.1 28 j = if j = f then (r : Int) else S.2.1 28 j) (f4 : ∀ n : Int, 0 ≤ n → n < 200 → X.2.1 (30 + f.toNat) n = zlast (S.2.1 26) (S.2.1 27) n r) (k1 : Y.1 = T.1) (k2 : ∀ q, q ≠ 58 → Y.2.1 q = T.2.1 q) (k3 : ∀ j, Y.2.1 58 j = if j = f then (r : Int) else T.2.1 58 j) : zRel n X Y := by
  have g : ∀ k, k ≠ 28 → ¬ (30 ≤ k ∧ k < 36) → X.2.1 k = S.2.1 k := fun k h1 h2 => f2 k h1 (by omega)
  refine ⟨?_, ?_, ?_, ?_, ?_, ?_, ?_, ?_, ?_, ?_, ?_, ?_, ?_, ?_, ?_, ?_, ?_, ?_, ?_, ?_, ?_, ?_, ?_, ?_, ?_, ?_, ?_, ?_, ?_, ?_, ?_, ?_, ?_⟩ <;> (try rw [f1]) <;> (try rw [k1])
  all_goals (try rw [g 8 (by omega) (by omega)])
  all_goals (try rw [g 9 (by omega) (by omega)])
  all_goals (try rw [g 10 (by omega) (by omega)])
  all_goals (try rw [g 11 (by omega) (by omega)])
  all_goals (try rw [g 12 (by omega) (by omega)])
  all_goals (try rw [g 13 (by omega) (by omega)])
  all_goals (try rw [g 14 (by omega) (by omega)])
  all_goals (try rw [g 15 (by omega) (by omega)])
  all_goals (try rw [g 16 (by omega) (by omega)])
  all_goals (try rw [g 17 (by omega) (by omega)])
  all_goals (try rw [g 18 (by omega) (by omega)])
  all_goals (try rw [g 19 (by omega) (by omega)])
  all_goals (try rw [g 20 (by omega) (by omega)])
  all_goals (try rw [g 21 (by omega) (by omega)])
  all_goals (try rw [g 22 (by omega) (by omega)])
  all_goals (try rw [g 23 (by omega) (by omega)])
  all_goals (try rw [g 24 (by omega) (by omega)])
  all_goals (try rw [g 25 (by omega) (by omega)])
  all_goals (try rw [g 26 (by omega) (by omega)])
  all_goals (try rw [g 27 (by omega) (by omega)])
  all_goals (try rw [g 36 (by omega) (by omega)])
  all_goals (try rw [g 37 (by omega) (by omega)])
  all_goals (try rw [g 38 (by omega) (by omega)])
  all_goals (try rw [k2 40 (by omega)])
  all_goals (try rw [k2 41 (by omega)])
  all_goals (try rw [k2 42 (by omega)])
  all_goals (try rw [k2 43 (by omega)])
  all_goals (try rw [k2 44 (by omega)])
  all_goals (try rw [k2 45 (by omega)])
  all_goals (try rw [k2 46 (by omega)])
  all_goals (try rw [k2 47 (by omega)])
  all_goals (try rw [k2 48 (by omega)])
  all_goals (try rw [k2 49 (by omega)])
  all_goals (try rw [k2 50 (by omega)])
  all_goals (try rw [k2 51 (by omega)])
  all_goals (try rw [k2 52 (by omega)])
  all_goals (try rw [k2 53 (by omega)])
  all_goals (try rw [k2 54 (by omega)])
  all_goals (try rw [k2 55 (by omega)])
  all_goals (try rw [k2 56 (by omega)])
  all_goals (try rw [k2 57 (by omega)])
  all_goals (try rw [k2 59 (by omega)])
  all_goals (try rw [k2 60 (by omega)])
  all_goals (try rw [k2 61 (by omega)])
  · exact h.now
  · exact h.nowr
  · exact h.ord
  · exact h.ordr
  · exact h.chg
  · exact h.chgr
  · exact h.hold
  · exact h.gone
  · exact h.down
  · exact h.lag
  · exact h.acc
  · intro j x y
    have q := h.lrn j x y
    rw [f3 j, k3 j]
    by_cases c : j = f
    · rw [if_pos c, if_pos c]
      omega
    · rw [if_neg c, if_neg c]
      exact q
  · exact h.serv
  · exact h.secr
  · exact h.quar
  · exact h.sile
  · exact h.call
  · exact h.last
  · exact h.lastn
  · exact h.held
  · exact h.cat
  · exact h.to6
  · exact h.ords
  · exact h.ordv
  · exact h.ordw
  · exact h.ordd
  · exact h.uniq
  · intro j k x y z w
    rw [f3 j]
    by_cases c : j = f
    · subst c
      rw [if_pos rfl, f4 k z w]
      rfl
    · rw [if_neg c, f2 (30 + j.toNat) (by omega) (by omega)]
      exact h.tab j k x y z w
  · exact h.repl
  · exact h.hisr
  · exact h.phi
  · exact h.stay
  · exact h.awo
theorem rel_li1 {n c2 : Nat} {S T : zS} (h : zRel n S T) (hc : (S.1 2).toNat = c2) {f : Int} (hf : 0 ≤ f ∧ f < 6) : zRel n (x_li1 S c2 f) (y_le1 T f) ∧ (x_li1 S c2 f).1 = S.1 := by
  have hl := h.lrn f hf.1 hf.2
  have hd := h.down f hf.1 hf.2
  have hg := h.lag f hf.1 hf.2
  have hcr := h.chgr
  have hch := h.chg
  unfold x_li1 y_le1
  rw [← hd.1]
  by_cases e : S.2.1 10 f = 0
  · rw [if_pos e, if_pos e, ← hl.1, ← hch, show (S.1 2 - S.2.1 28 f).toNat = c2 - (S.2.1 28 f).toNat by omega]
    obtain ⟨r, hr, ⟨g1, g2, g3, g4⟩, k1, k2, k3⟩ := lu_ln (f := f) (m := S.1 0 - S.2.1 11 f) (c := 0) (a := S.2.1 26) (b := S.2.1 27) (c2 - (S.2.1 28 f).toNat) (S.2.1 28 f).toNat S T rfl rfl (fun k x y => h.tab f k hf.1 hf.2 x y) (by omega) (fun j x y => (h.cat j x (by omega)).1) (by rw [h.now, hg.1])
    exact ⟨h.learn hf (by omega) g1 g2 g3 g4 k1 k2 k3, g1⟩
  · rw [if_neg e, if_neg e]
    exact ⟨h, rfl⟩
theorem rel_li {n c2 : Nat} : ∀ (k i : Nat) (S T : zS), i + k = 6 → (S.1 2).toNat = c2 → zRel n S T → zRel n (x_li S c2 i k) (y_le T i k) ∧ (x_li S c2 i k).1 = S.1
  | 0, _, _, _, _, _, h => ⟨h, rfl⟩
  | k + 1, i, S, T, hi, hc, h => by
    obtain ⟨r, e⟩ := rel_li1 h hc (f := i) (by omega)
    obtain ⟨r2, e2⟩ := rel_li (n := n) (c2 := c2) k (i + 1) (x_li1 S c2 i) (y_le1 T i) (by omega) (by rw [e]; exact hc) r
    rw [x_li, y_le]
    exact ⟨r2, e2.trans e⟩
theorem x_cd_ord {c : Nat} : ∀ (k i : Nat) (S : zS), (x_cd S c i k).1 1 = S.1 1
  | 0, _, _ => rfl
  | k + 1, i, S => by
    rw [x_cd, x_cd_ord k (i + 1)]
    split
    · exact x_co_11.1
    · rfl
theorem rel_min {n c : Nat} {S T : zS} (h : zRel n S T) (hc : (S.1 1).toNat = c) (h9 : S.1 0 < 9999) : zRel n (x_min S c) (y_min T c) ∧ x_minn S c = y_minn T c ∧ (x_min S c).1 1 = S.1 1 ∧ (x_min S c).1 0 = S.1 0 + 1 := by
  obtain ⟨r, v⟩ := rel_cd (n := n) (c := c) c 0 (z_sS S 0 (S.1 0 + 1)) (z_sS T 6 (T.1 6 + 1)) (by omega) hc (step_tick h h9)
  obtain ⟨r2, e2⟩ := rel_li (n := n) 6 0 _ _ (by omega) rfl r
  refine ⟨r2, v, ?_, ?_⟩
  · unfold x_min
    rw [e2, x_cd_ord]
    rfl
  · unfold x_min
    rw [e2, x_cd_now]
    rfl
theorem rel_ps {n c : Nat} : ∀ (k : Nat) (S T : zS), zRel n S T → (S.1 1).toNat = c → S.1 0 + k ≤ 9999 → zRel n (x_ps S c k) (y_ps T c k) ∧ x_psn S c k = y_psn T c k
  | 0, _, _, h, _, _ => ⟨h, rfl⟩
  | k + 1, S, T, h, hc, h9 => by
    obtain ⟨r, v, e1, e0⟩ := rel_min h hc (by omega)
    obtain ⟨r2, v2⟩ := rel_ps (n := n) (c := c) k (x_min S c) (y_min T c) r (by rw [e1]; exact hc) (by rw [e0]; omega)
    rw [x_ps, y_ps, x_psn, y_psn, v, v2]
    exact ⟨r2, rfl⟩
