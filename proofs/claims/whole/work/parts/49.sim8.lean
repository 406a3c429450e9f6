/-! ===== the simulation: calls, hop by hop ===== -/
theorem x_has_iff {S : zS} {f : Int} : ∀ (k a : Nat), x_has S f a k = true ↔ ∃ j : Nat, (a ≤ j ∧ j < a + k) ∧ S.2.1 39 j = f
  | 0, a => by
    rw [x_has]
    constructor
    · intro h; cases h
    · rintro ⟨j, h, -⟩; omega
  | k + 1, a => by
    rw [x_has, Bool.or_eq_true, decide_eq_true_eq, x_has_iff k (a + 1)]
    constructor
    · rintro (h | ⟨j, h1, h2⟩)
      · exact ⟨a, by omega, h⟩
      · exact ⟨j, by omega, h2⟩
    · rintro ⟨j, h1, h2⟩
      by_cases e : j = a
      · subst e; exact .inl h2
      · exact .inr ⟨j, by omega, h2⟩
theorem has_wh {S T : zS} {i : Nat} {x : Int} (e : ∀ j : Int, 0 ≤ j → j < i → S.2.1 39 j = T.2.1 62 j) : x_has S x 0 i = true ↔ y_wh T x i = 1 := by
  have h1 := y_wh_iff T x i
  have h2 := y_wh_rng T x i
  rw [x_has_iff]
  constructor
  · rintro ⟨j, hj, hx⟩
    rcases h2 with h2 | h2
    · exact absurd (by rw [← e j (by omega) (by omega)]; exact hx) (h1.1 h2 j (by omega))
    · exact h2
  · intro h
    refine Classical.byContradiction fun hn => ?_
    have h0 : y_wh T x i = 0 := h1.2 (fun j hj hx => hn ⟨j, by omega, by rw [e j (by omega) (by omega)]; exact hx⟩)
    omega
theorem x_ha_ne {S : zS} {x : Int} {k : Nat} {j : Int} (h : k ≠ 39) : (x_ha S x).2.1 k j = S.2.1 k j := by
  unfold x_ha
  rw [za_sS, za_ne h]
theorem x_ha_39 {S : zS} {x j : Int} : (x_ha S x).2.1 39 j = if j = S.1 4 then x else S.2.1 39 j := by
  unfold x_ha
  rw [za_sS, za_sA]
  simp
theorem x_pbt_ha {S : zS} {x f n : Int} (hf : 0 ≤ f ∧ f < 6) : x_pbt (x_ha S x) f n = x_pbt S f n := by
  unfold x_pbt
  rw [x_ha_ne (by omega), x_ha_ne (by omega)]
theorem y_kb_ht {T : zS} {x f n : Int} : y_kb (y_ht T x) f n = y_kb T f n := by
  unfold y_kb
  rw [y_ht_ne (by omega), y_ht_ne (by omega), y_last_cong (S := T) (T := y_ht T x) (fun j => y_ht_ne (by omega)) (fun j => y_ht_ne (by omega))]
theorem ft_gs {n w h : Int} : ∀ (k i : Nat) (S T : zS), i + k = 7 → xT S n h i → yT T n h i → S.2.1 13 n = T.2.1 42 n → (∀ f : Int, 0 ≤ f → f < 6 → S.2.1 9 f = T.2.1 41 f) → (∀ f : Int, 0 ≤ f → f < 6 → x_pbt S f n = y_kb T f n) → (∀ j : Int, 0 ≤ j → j < i → S.2.1 39 j = T.2.1 62 j) →
    (x_ft S n w h i k).2 = (y_gs T n w h i k).2 ∧ (x_ft S n w h i k).1.1 4 = (y_gs T n w h i k).1.1 9 ∧ ∀ j : Int, 0 ≤ j → j < (x_ft S n w h i k).1.1 4 → (x_ft S n w h i k).1.2.1 39 j = (y_gs T n w h i k).1.2.1 62 j
  | 0, i, S, T, hi, X, Y, hs, hg, hk, e => by
    rw [x_ft, y_gs]
    exact ⟨rfl, by rw [show S.1 4 = i from X.1, show T.1 9 = i from Y.1], fun j a b => e j a (by rw [show S.1 4 = i from X.1] at b; exact b)⟩
  | k + 1, i, S, T, hi, X, Y, hs, hg, hk, e => by
    have xr := x_rd_rng (w := w) X
    have xn := x_nx_rng (w := w) X
    have yn := y_nx_rng (w := w) Y
    have t4 : S.1 4 = i := X.1
    have t9 : T.1 9 = i := Y.1
    have ei := X.2.1
    have ea := e ((i : Int) - 1) (by omega) (by omega)
    have e0 := e 0 (by omega) (by omega)
    have ha := X.2.2.2.2.2.2 ((i : Int) - 1) (by omega) (by omega)
    have er : x_rd S w h i = y_rd T w h i := by
      unfold x_rd y_rd
      rw [ea, e0]
      by_cases c : w = 2 ∧ i = 2 ∧ T.2.1 62 ((i : Int) - 1) = h
      · rw [if_pos c, if_pos ⟨c.1, c.2.1, c.2.2.symm⟩]
      · rw [if_neg c, if_neg (fun q => c ⟨q.1, q.2.1, q.2.2.symm⟩)]
    have en : x_nx S n w h i = y_nx T n w h i := by
      unfold x_nx y_nx
      rw [← er, ea, hk _ xr.1 xr.2]
      by_cases c : ¬ w = 0 ∧ i = 1 ∧ ¬ T.2.1 62 ((i : Int) - 1) = h
      · rw [if_pos c, if_pos ⟨c.1, c.2.1, fun q => c.2.2 q.symm⟩]
      · rw [if_neg c, if_neg (fun q => c ⟨q.1, q.2.1, fun z => q.2.2 z.symm⟩)]
    have base : S.1 4 = T.1 9 ∧ ∀ j : Int, 0 ≤ j → j < S.1 4 → S.2.1 39 j = T.2.1 62 j := ⟨by rw [t4, t9], fun j a b => e j a (by rw [t4] at b; exact b)⟩
    rw [x_ft, y_gs, er, en, ea, hs, hg _ (by omega) (by omega)]
    by_cases c1 : T.2.1 62 ((i : Int) - 1) = T.2.1 42 n
    · rw [if_pos c1, if_pos c1.symm]
      exact ⟨rfl, base.1, base.2⟩
    · rw [if_neg c1, if_neg (show ¬ T.2.1 42 n = T.2.1 62 ((i : Int) - 1) from fun q => c1 q.symm)]
      by_cases c2 : ¬ T.2.1 41 (T.2.1 62 ((i : Int) - 1)) = 0
      · rw [if_pos c2, if_pos c2]
        exact ⟨rfl, base.1, base.2⟩
      · rw [if_neg c2, if_neg c2]
        by_cases c3 : y_nx T n w h i = T.2.1 62 ((i : Int) - 1) ∨ y_nx T n w h i = y_rd T w h i
        · rw [if_pos c3, if_pos c3]
          exact ⟨rfl, base.1, base.2⟩
        · rw [if_neg c3, if_neg c3]
          have b2 : (x_ha S (y_nx T n w h i)).1 4 = (y_ht T (y_nx T n w h i)).1 9 ∧ ∀ j : Int, 0 ≤ j → j < (i : Int) + 1 → (x_ha S (y_nx T n w h i)).2.1 39 j = (y_ht T (y_nx T n w h i)).2.1 62 j := by
            refine ⟨show S.1 4 + 1 = T.1 9 + 1 by omega, fun j a b => ?_⟩
            rw [x_ha_39, y_ht_62, t4, t9]
            by_cases c : j = i
            · rw [if_pos c, if_pos c]
            · rw [if_neg c, if_neg c]
              exact e j a (by omega)
          have hw := has_wh (x := y_nx T n w h i) e
          have f4 : (x_ha S (y_nx T n w h i)).1 4 = (i : Int) + 1 := show S.1 4 + 1 = _ by omega
          by_cases c4 : x_has S (y_nx T n w h i) 0 i = true
          · rw [if_pos c4, if_pos (hw.1 c4)]
            exact ⟨rfl, b2.1, fun j a b => b2.2 j a (by rw [f4] at b; exact b)⟩
          · have c5 : ¬ y_wh T (y_nx T n w h i) i = 1 := fun q => c4 (hw.2 q)
            have h0 := y_wh_rng T (y_nx T n w h i) i
            rw [if_neg c4, if_neg c5]
            exact ft_gs k (i + 1) _ _ (by omega) (xT_ha X (by omega) yn) (yT_ht Y (by omega) yn (by omega)) (by rw [x_ha_ne (by omega), y_ht_ne (by omega)]; exact hs) (fun f a b => by rw [x_ha_ne (by omega), y_ht_ne (by omega)]; exact hg f a b) (fun f a b => by rw [x_pbt_ha ⟨a, b⟩, y_kb_ht]; exact hk f a b) (fun j a b => b2.2 j a (by omega))
theorem x_hb_ne {S : zS} {x : Int} {k : Nat} {j : Int} (h : k ≠ 39) : (x_hb S x).2.1 k j = S.2.1 k j := by
  unfold x_hb
  rw [za_sS, za_ne h]
theorem x_hb_39 {S : zS} {f : Int} : (x_hb S f).2.1 39 0 = f := by
  unfold x_hb
  rw [za_sS, za_eq]
/-- a call goes the same way -/
theorem tc_eq {n9 : Nat} {S T U : zS} (r : zRel n9 S T) (u40 : U.2.1 40 = T.2.1 40) (u41 : U.2.1 41 = T.2.1 41) (u42 : U.2.1 42 = T.2.1 42) (u56 : U.2.1 56 = T.2.1 56) (u57 : U.2.1 57 = T.2.1 57) (u58 : U.2.1 58 = T.2.1 58) (C : yC U) {f n w : Int} (hf : 0 ≤ f ∧ f < 6) (hn : 0 ≤ n ∧ n < 200) :
    (x_tc S f n w).2 = (y_tc U f n w).2 ∧ (x_tc S f n w).1.1 4 = (y_tc U f n w).1.1 9 ∧ ∀ j : Int, 0 ≤ j → j < (x_tc S f n w).1.1 4 → (x_tc S f n w).1.2.1 39 j = (y_tc U f n w).1.2.1 62 j := by
  have q1 := r.hold (n / 10) (by omega) (by omega)
  have q2 := r.serv n hn.1 hn.2
  have e1 : ∀ j : Int, 0 ≤ j → j < 1 → (x_hb S f).2.1 39 j = (y_hb U f).2.1 62 j := fun j a b => by
    have e : j = 0 := by omega
    subst e
    rw [x_hb_39, y_hb_62]
  unfold x_tc y_tc
  rw [u40, u42, ← q1.1, ← q2.1]
  by_cases c1 : S.2.1 8 (n / 10) = -1
  · rw [if_pos c1, if_pos c1]
    exact ⟨rfl, rfl, e1⟩
  · rw [if_neg c1, if_neg c1]
    by_cases c2 : S.2.1 13 n = -1
    · rw [if_pos c2, if_pos c2]
      by_cases c3 : S.2.1 8 (n / 10) = f
      · rw [if_pos c3, if_pos c3]
        exact ⟨rfl, rfl, e1⟩
      · rw [if_neg c3, if_neg c3]
        refine ⟨rfl, rfl, fun j a b => ?_⟩
        have b2 : j < 1 + 1 := b
        show (x_ha (x_hb S f) (S.2.1 8 (n / 10))).2.1 39 j = (y_ht (y_hb U f) (S.2.1 8 (n / 10))).2.1 62 j
        rw [x_ha_39, y_ht_62, show (x_hb S f).1 4 = 1 from rfl, show (y_hb U f).1 9 = 1 from rfl]
        by_cases c : j = 1
        · rw [if_pos c, if_pos c]
        · rw [if_neg c, if_neg c]
          exact e1 j a (by omega)
    · rw [if_neg c2, if_neg c2]
      have hY := yT_hb (f := f) (n := n) C hf hn (by rw [u40, ← q1.1]; exact c1)
      rw [u40, ← q1.1] at hY
      exact ft_gs 6 1 _ _ (by omega) (xT_hb hf hn (by omega) (fun g x y => r.xR2'.2.1 g n x y hn.1 hn.2)) hY (by rw [x_hb_ne (by omega), y_hb_ne (by omega), u42]; exact q2.1) (fun g x y => by rw [x_hb_ne (by omega), y_hb_ne (by omega), u41]; exact (r.gone g x y).1) (fun g x y => by
        have k1 := r.kb' (f := g) (k := n) ⟨x, y⟩ hn
        have k2 : x_pbt (x_hb S f) g n = x_pbt S g n := by unfold x_pbt; rw [x_hb_ne (by omega), x_hb_ne (by omega)]
        have k3 : y_kb (y_hb U f) g n = y_kb T g n := by
          unfold y_kb
          rw [y_hb_ne (by omega), y_hb_ne (by omega), y_last_cong (S := T) (T := y_hb U f) (fun j => by rw [y_hb_ne (by omega), u56]) (fun j => by rw [y_hb_ne (by omega), u57]), u40, u58]
        rw [k2, k3, k1]) e1
