/-! ===== a firm ends: all numbers ===== -/
theorem x_fold_add {g : zS → Nat → zS} : ∀ (a i k : Nat) (S : zS), x_fold g i (a + k) S = x_fold g (i + a) k (x_fold g i a S)
  | 0, i, k, S => by rw [Nat.zero_add, x_fold]; rfl
  | a + 1, i, k, S => by rw [show a + 1 + k = (a + k) + 1 by omega, x_fold_s, x_fold_s, x_fold_add a (i + 1) k, show i + 1 + a = i + (a + 1) by omega]
theorem x_foldn_add {g : zS → Nat → zS} {w : zS → Nat → Int} : ∀ (a i k : Nat) (S : zS), x_foldn g w i (a + k) S = x_foldn g w i a S + x_foldn g w (i + a) k (x_fold g i a S)
  | 0, i, k, S => by
    rw [Nat.zero_add, x_foldn, x_fold, Int.zero_add]
    rfl
  | a + 1, i, k, S => by rw [show a + 1 + k = (a + k) + 1 by omega, x_foldn_s, x_foldn_s, x_fold_s, x_foldn_add a (i + 1) k, show i + 1 + a = i + (a + 1) by omega, Int.add_assoc]
theorem zJ.block {f h hb : Int} {S T : zS} {b : Nat} (h0 : S.1 0 = T.1 6) (h2 : 0 ≤ S.1 2) (hb2 : b < 20) (hfh : ¬ f = h) (hh : 0 ≤ h ∧ h < 6) (es : ∀ k : Int, 0 ≤ k → k < 200 → S.2.1 13 k = T.2.1 42 k) (eh : ∀ k : Int, 0 ≤ k → k < 20 → S.2.1 8 k = T.2.1 40 k) (ehb : hb = S.2.1 8 b) : ∀ (k i : Nat) (X Y : zS), 10 * b ≤ i → i + k = 10 * b + 10 → zJ f h S T X Y i → X.2.1 8 b = (if S.2.1 8 b = f then h else S.2.1 8 b) → X.1 2 = S.1 2 + z_ct (zec f h S) i →
    zJ f h S T (x_ibl X f h hb i k) (y_el Y f h i k) (i + k) ∧ (x_ibl X f h hb i k).1 2 = S.1 2 + z_ct (zec f h S) (i + k) ∧ (x_ibl X f h hb i k).2.1 8 = X.2.1 8 ∧ x_ibc X f h hb i k = y_en2 Y f h i k
  | 0, i, X, Y, _, _, J, _, c => by
    rw [y_el_0, y_en2_0]
    exact ⟨J, c, rfl, rfl⟩
  | k + 1, i, X, Y, hi, hik, J, e8, c => by
    have d : (i : Int) / 10 = b := by omega
    obtain ⟨J2, c2, q8, v⟩ := J.step h0 h2 (by omega) hfh hh (es i (by omega) (by omega)) (by rw [d]; exact eh b (by omega) (by omega)) (hb := hb) (by rw [d]; exact ehb) (by rw [d]; exact e8)
    obtain ⟨J3, c3, q3, v3⟩ := zJ.block h0 h2 hb2 hfh hh es eh ehb k (i + 1) _ _ (by omega) (by omega) J2 (by rw [q8]; exact e8) (by
      rw [c2, c, z_ct]
      split <;> omega)
    rw [x_ibl, y_el_s, x_ibc, y_en2_s, v, v3, show i + (k + 1) = i + 1 + k by omega]
    exact ⟨J3, c3, q3.trans q8, rfl⟩
theorem zJ.blocks {f h : Int} {S T : zS} (h0 : S.1 0 = T.1 6) (h2 : 0 ≤ S.1 2) (hfh : ¬ f = h) (hh : 0 ≤ h ∧ h < 6) (es : ∀ k : Int, 0 ≤ k → k < 200 → S.2.1 13 k = T.2.1 42 k) (eh : ∀ k : Int, 0 ≤ k → k < 20 → S.2.1 8 k = T.2.1 40 k) : ∀ (k b : Nat) (X Y : zS), b + k = 20 → zJ f h S T X Y (10 * b) → (∀ j : Int, 0 ≤ j → X.2.1 8 j = if j < b ∧ S.2.1 8 j = f then h else S.2.1 8 j) → X.1 2 = S.1 2 + z_ct (zec f h S) (10 * b) →
    zJ f h S T (x_ebl X f h b k) (y_el Y f h (10 * b) (10 * k)) 200 ∧ (x_ebl X f h b k).1 2 = S.1 2 + z_ct (zec f h S) 200 ∧ (∀ j : Int, 0 ≤ j → j < 20 → (x_ebl X f h b k).2.1 8 j = if S.2.1 8 j = f then h else S.2.1 8 j) ∧ x_ebn X f h b k = y_en2 Y f h (10 * b) (10 * k)
  | 0, b, X, Y, hb, J, e8, c => by
    rw [x_ebl_0, x_ebn_0, Nat.mul_zero, y_el_0, y_en2_0]
    rw [show 10 * b = 200 by omega] at J c
    refine ⟨J, c, fun j x y => ?_, rfl⟩
    rw [e8 j x]
    have w : j < (b : Int) := by omega
    simp only [w, true_and]
  | k + 1, b, X, Y, hb, J, e8, c => by
    have hbb : X.2.1 8 b = S.2.1 8 b := by rw [e8 b (by omega), if_neg (by omega)]
    have J1 : zJ f h S T (if X.2.1 8 b = f then z_sA X 8 b h else X) Y (10 * b) := by
      split
      · exact J.hold
      · exact J
    have e1 : (if X.2.1 8 b = f then z_sA X 8 b h else X).2.1 8 b = if S.2.1 8 b = f then h else S.2.1 8 b := by
      rw [hbb]
      by_cases w : S.2.1 8 b = f
      · rw [if_pos w, if_pos w, za_eq]
      · rw [if_neg w, if_neg w, hbb]
    have c1 : (if X.2.1 8 b = f then z_sA X 8 b h else X).1 2 = S.1 2 + z_ct (zec f h S) (10 * b) := by
      rw [← c]
      split <;> rfl
    obtain ⟨J2, c2, q2, v2⟩ := zJ.block h0 h2 (b := b) (by omega) hfh hh es eh (hb := X.2.1 8 b) hbb 10 (10 * b) _ _ (by omega) (by omega) J1 e1 c1
    have e8' : ∀ j : Int, 0 ≤ j → (x_ib X f h b).2.1 8 j = if j < (b + 1 : Nat) ∧ S.2.1 8 j = f then h else S.2.1 8 j := by
      intro j x
      unfold x_ib
      rw [q2]
      by_cases w : j = b
      · subst w
        rw [e1]
        have w2 : (b : Int) < ((b + 1 : Nat) : Int) := by omega
        simp only [w2, true_and]
      · have w2 : (j < ((b + 1 : Nat) : Int)) ↔ (j < (b : Int)) := by omega
        have w3 : (if X.2.1 8 b = f then z_sA X 8 b h else X).2.1 8 j = X.2.1 8 j := by
          split
          · exact za_ni w
          · rfl
        rw [w3, e8 j x]
        simp only [w2]
    obtain ⟨J3, c3, q3, v3⟩ := zJ.blocks h0 h2 hfh hh es eh k (b + 1) (x_ib X f h b) (y_el Y f h (10 * b) 10) (by omega) (by rw [show 10 * (b + 1) = 10 * b + 10 by omega]; exact J2) e8' (by rw [show 10 * (b + 1) = 10 * b + 10 by omega]; exact c2)
    have ey : y_el Y f h (10 * b) (10 * (k + 1)) = y_el (y_el Y f h (10 * b) 10) f h (10 * (b + 1)) (10 * k) := by
      unfold y_el
      rw [show 10 * (k + 1) = 10 + 10 * k by omega, x_fold_add, show 10 * (b + 1) = 10 * b + 10 by omega]
    have en : y_en2 Y f h (10 * b) (10 * (k + 1)) = y_en2 Y f h (10 * b) 10 + y_en2 (y_el Y f h (10 * b) 10) f h (10 * (b + 1)) (10 * k) := by
      unfold y_en2 y_el
      rw [show 10 * (k + 1) = 10 + 10 * k by omega, x_foldn_add, show 10 * (b + 1) = 10 * b + 10 by omega]
    rw [x_ebl_s, x_ebn_s, ey, en, v3, show x_ibn X f h b = y_en2 Y f h (10 * b) 10 from v2]
    exact ⟨J3, c3, q3, rfl⟩
theorem x_cby_at {f : Int} : ∀ (k i : Nat) (S : zS), (x_cby S f i k).1 = S.1 ∧ (x_cby S f i k).2.2 = S.2.2 ∧ (∀ q, q ≠ 19 → (x_cby S f i k).2.1 q = S.2.1 q) ∧ ∀ j : Int, (x_cby S f i k).2.1 19 j = if (i ≤ j ∧ j < (i + k : Nat)) ∧ S.2.1 19 j = 1 ∧ S.2.1 22 j = f then 3 else S.2.1 19 j
  | 0, i, S => by
    refine ⟨rfl, rfl, fun _ _ => rfl, fun j => ?_⟩
    rw [if_neg (by omega)]
    rfl
  | k + 1, i, S => by
    rw [x_cby]
    obtain ⟨h1, h2, h3, h4⟩ := x_cby_at (f := f) k (i + 1) (if S.2.1 19 i = 1 ∧ S.2.1 22 i = f then z_sA S 19 i 3 else S)
    refine ⟨h1.trans (by split <;> rfl), h2.trans (by split <;> rfl), fun q hq => (h3 q hq).trans ?_, fun j => ?_⟩
    · split
      · exact funext fun j => za_ne hq
      · rfl
    · rw [h4 j]
      by_cases e : S.2.1 19 i = 1 ∧ S.2.1 22 i = f
      · rw [if_pos e]
        by_cases w : j = i
        · subst w
          rw [if_neg (by omega), za_eq, if_pos ⟨by omega, e⟩]
        · rw [za_ni w, za_ne (by omega)]
          have w2 : (((i + 1 : Nat) : Int) ≤ j ∧ j < ((i + 1 + k : Nat) : Int)) ↔ ((i : Int) ≤ j ∧ j < ((i + (k + 1) : Nat) : Int)) := by omega
          simp only [w2]
      · rw [if_neg e]
        by_cases w : j = i
        · subst w
          rw [if_neg (fun w2 => e w2.2), if_neg (fun w2 => e w2.2)]
        · have w2 : (((i + 1 : Nat) : Int) ≤ j ∧ j < ((i + 1 + k : Nat) : Int)) ↔ ((i : Int) ≤ j ∧ j < ((i + (k + 1) : Nat) : Int)) := by omega
          simp only [w2]
theorem y_bl_at {f h : Int} : ∀ (k i : Nat) (S : zS), (x_fold (y_bl1 f h) i k S).1 = S.1 ∧ (x_fold (y_bl1 f h) i k S).2.2 = S.2.2 ∧ (∀ q, q ≠ 40 → (x_fold (y_bl1 f h) i k S).2.1 q = S.2.1 q) ∧ ∀ j : Int, (x_fold (y_bl1 f h) i k S).2.1 40 j = if (i ≤ j ∧ j < (i + k : Nat)) ∧ S.2.1 40 j = f then h else S.2.1 40 j
  | 0, i, S => by
    refine ⟨rfl, rfl, fun _ _ => rfl, fun j => ?_⟩
    rw [if_neg (by omega)]
    rfl
  | k + 1, i, S => by
    rw [x_fold_s]
    obtain ⟨h1, h2, h3, h4⟩ := y_bl_at (f := f) (h := h) k (i + 1) (y_bl1 f h S i)
    refine ⟨h1, h2, fun q hq => (h3 q hq).trans (funext fun j => za_ne hq), fun j => ?_⟩
    rw [h4 j]
    unfold y_bl1
    by_cases w : j = i
    · subst w
      rw [if_neg (by omega), za_eq]
      have w2 : ((i : Int) ≤ i ∧ (i : Int) < ((i + (k + 1) : Nat) : Int)) := by omega
      simp only [w2, true_and]
    · rw [za_ni w]
      have w2 : (((i + 1 : Nat) : Int) ≤ j ∧ j < ((i + 1 + k : Nat) : Int)) ↔ ((i : Int) ≤ j ∧ j < ((i + (k + 1) : Nat) : Int)) := by omega
      simp only [w2]
theorem y_cl_at {f : Int} : ∀ (k i : Nat) (S : zS), (x_fold (y_cl1 f) i k S).1 = S.1 ∧ (x_fold (y_cl1 f) i k S).2.2 = S.2.2 ∧ (∀ q, q ≠ 48 → (x_fold (y_cl1 f) i k S).2.1 q = S.2.1 q) ∧ ∀ j : Int, (x_fold (y_cl1 f) i k S).2.1 48 j = if (i ≤ j ∧ j < (i + k : Nat)) ∧ S.2.1 48 j = 1 ∧ S.2.1 51 j = f then 3 else S.2.1 48 j
  | 0, i, S => by
    refine ⟨rfl, rfl, fun _ _ => rfl, fun j => ?_⟩
    rw [if_neg (by omega)]
    rfl
  | k + 1, i, S => by
    rw [x_fold_s]
    obtain ⟨h1, h2, h3, h4⟩ := y_cl_at (f := f) k (i + 1) (y_cl1 f S i)
    refine ⟨h1, h2, fun q hq => (h3 q hq).trans (funext fun j => za_ne hq), fun j => ?_⟩
    rw [h4 j]
    unfold y_cl1
    by_cases w : j = i
    · subst w
      rw [if_neg (by omega), za_eq]
      have w2 : ((i : Int) ≤ i ∧ (i : Int) < ((i + (k + 1) : Nat) : Int)) := by omega
      simp only [w2, true_and]
    · rw [za_ni w, za_ne (by omega)]
      have w2 : (((i + 1 : Nat) : Int) ≤ j ∧ j < ((i + 1 + k : Nat) : Int)) ↔ ((i : Int) ≤ j ∧ j < ((i + (k + 1) : Nat) : Int)) := by omega
      simp only [w2]
/-! counting -/
theorem z_ct_two {p q r : Nat → Bool} : ∀ {n : Nat}, (∀ k, k < n → (if p k = true then 1 else 0) + (if q k = true then 1 else 0) ≤ 2 * (if r k = true then 1 else 0)) → z_ct p n + z_ct q n ≤ 2 * z_ct r n
  | 0, _ => Nat.le_refl _
  | n + 1, h => by
    have h1 := z_ct_two (p := p) (q := q) (r := r) (n := n) (fun k hk => h k (by omega))
    have h2 := h n (by omega)
    rw [z_ct, z_ct, z_ct]
    omega
theorem z_ct_zero {p : Nat → Bool} : ∀ {n : Nat}, (∀ k, k < n → p k = false) → z_ct p n = 0
  | 0, _ => rfl
  | n + 1, h => by
    rw [z_ct, z_ct_zero (fun k hk => h k (by omega)), h n (by omega)]
    rfl
/-- as many as are pointed at, at most -/
theorem z_ct_inj {g : Nat → Int} {N : Nat} : ∀ (c : Nat) (p : Nat → Bool), (∀ k, k < N → p k = true → ∃ o : Nat, o < c ∧ g o = k) → z_ct p N ≤ c
  | 0, p, h => by
    rw [z_ct_zero (fun k hk => by
      cases e : p k
      · rfl
      · obtain ⟨o, q, _⟩ := h k hk e
        exact absurd q (by omega))]
    exact Nat.le_refl _
  | c + 1, p, h => by
    have h1 := z_ct_inj (g := g) (N := N) c (fun k => p k && !decide ((k : Int) = g c)) (fun k hk e => by
      have e' : p k = true ∧ ¬ (k : Int) = g c := by simpa using e
      obtain ⟨o, q1, q2⟩ := h k hk e'.1
      have : o ≠ c := fun w => e'.2 (by rw [← w, q2])
      exact ⟨o, by omega, q2⟩)
    have h2 := (z_ct_up1 (p := fun k => p k && !decide ((k : Int) = g c)) (q := p) (k := (g c).toNat) (n := N) (fun j _ hj => by
      have : ¬ (j : Int) = g c := by omega
      simp [this])).1
    omega
theorem zRel.away60 {n : Nat} {S T : zS} (h : zRel n S T) : z_ct (zaway (S.2.1 13) (S.2.1 8)) 200 ≤ 60 := by
  have ho := h.ordr
  have := z_ct_inj (g := fun o => S.2.1 21 o) (N := 200) (S.1 1).toNat (zaway (S.2.1 13) (S.2.1 8)) (fun k hk e => by
    obtain ⟨o, q1, _, q3⟩ := h.awo k hk e
    exact ⟨o, by omega, q3⟩)
  omega
