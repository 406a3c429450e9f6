/-! ===== a firm ends: both sides, number by number ===== -/
theorem x_cby_at {f : Int} : ∀ (k i : Nat) (S : zS), (x_cby S f i k).1 = S.1 ∧ (x_cby S f i k).2.2 = S.2.2 ∧ (∀ q, q ≠ 19 → (x_cby S f i k).2.1 q = S.2.1 q) ∧ ∀ j : Int, (x_cby S f i k).2.1 19 j = if (i ≤ j ∧ j < (i + k : Nat)) ∧ S.2.1 19 j = 1 ∧ S.2.1 22 j = f then 3 else S.2.1 19 j
  | 0, i, S => by
    refine ⟨rfl, rfl, fun _ _ => rfl, fun j => ?_⟩
    rw [if_neg (by omega)]
    rfl
  | k + 1, i, S => by
    rw [x_cby]
    obtain ⟨h1, h2, h3, h4⟩ := x_cby_at (f := f) k (i + 1) (if S.2.1 19 i = 1 ∧ S.2.1 22 i = f then z_sA S 19 i 3 else S)
    refine ⟨h1.trans (by split <;> rfl), h2.trans (by split <;> rfl), fun q hq => (h3 q hq).trans ?_, fun j => ?_⟩
    · split
      · exact funext fun j => za_ne hq
      · rfl
    · rw [h4 j]
      by_cases e : S.2.1 19 i = 1 ∧ S.2.1 22 i = f
      · rw [if_pos e]
        by_cases w : j = i
        · subst w
          rw [if_neg (by omega), za_eq, if_pos ⟨by omega, e⟩]
        · rw [za_ni w, za_ne (by omega)]
          have w2 : (((i + 1 : Nat) : Int) ≤ j ∧ j < ((i + 1 + k : Nat) : Int)) ↔ ((i : Int) ≤ j ∧ j < ((i + (k + 1) : Nat) : Int)) := by omega
          simp only [w2]
      · rw [if_neg e]
        by_cases w : j = i
        · subst w
          rw [if_neg (fun w2 => e w2.2), if_neg (fun w2 => e w2.2)]
        · have w2 : (((i + 1 : Nat) : Int) ≤ j ∧ j < ((i + 1 + k : Nat) : Int)) ↔ ((i : Int) ≤ j ∧ j < ((i + (k + 1) : Nat) : Int)) := by omega
          simp only [w2]
/-- another history -/
theorem Rel.hist {V X T : zS} (h : Rel V T) (e1 : ∀ q, q ≠ 3 → q ≠ 4 → X.1 q = V.1 q) (e2 : ∀ k, 8 ≤ k → k < 39 → ¬ (36 ≤ k ∧ k < 39) → X.2.1 k = V.2.1 k) (e3 : 0 ≤ X.1 3) (er : ∀ m : Int, 0 ≤ m → m < 200 → zrep (X.2.1 36) (X.2.1 37) (X.2.1 38) m 0 (X.1 3).toNat (-1) = V.2.1 13 m) : Rel X T := by
  have e8 := e2 8 (by omega) (by omega) (by omega)
  have e9 := e2 9 (by omega) (by omega) (by omega)
  have e10 := e2 10 (by omega) (by omega) (by omega)
  have e11 := e2 11 (by omega) (by omega) (by omega)
  have e12 := e2 12 (by omega) (by omega) (by omega)
  have e13 := e2 13 (by omega) (by omega) (by omega)
  have e14 := e2 14 (by omega) (by omega) (by omega)
  have e15 := e2 15 (by omega) (by omega) (by omega)
  have e16 := e2 16 (by omega) (by omega) (by omega)
  have e17 := e2 17 (by omega) (by omega) (by omega)
  have e18 := e2 18 (by omega) (by omega) (by omega)
  have e19 := e2 19 (by omega) (by omega) (by omega)
  have e20 := e2 20 (by omega) (by omega) (by omega)
  have e21 := e2 21 (by omega) (by omega) (by omega)
  have e22 := e2 22 (by omega) (by omega) (by omega)
  have e23 := e2 23 (by omega) (by omega) (by omega)
  have e24 := e2 24 (by omega) (by omega) (by omega)
  have e25 := e2 25 (by omega) (by omega) (by omega)
  have e26 := e2 26 (by omega) (by omega) (by omega)
  have e27 := e2 27 (by omega) (by omega) (by omega)
  have e28 := e2 28 (by omega) (by omega) (by omega)
  have s0 := e1 0 (by omega) (by omega)
  have s1 := e1 1 (by omega) (by omega)
  have s2 := e1 2 (by omega) (by omega)
  have g : ∀ f : Int, 0 ≤ f → f < 6 → X.2.1 (30 + f.toNat) = V.2.1 (30 + f.toNat) := fun f a b => e2 _ (by omega) (by omega) (by omega)
  refine ⟨?_, ?_, ?_, ?_, ?_, ?_, ?_, ?_, ?_, ?_, ?_, ?_, ?_, ?_, ?_, ?_, ?_, ?_, ?_, ?_, ?_, ?_, ?_, ?_, ?_, ?_, ?_, ?_, ?_, ?_, ?_⟩
  · rw [s0]; exact h.now
  · rw [s0]; exact h.nowr
  · rw [s1]; exact h.ord
  · rw [s1]; exact h.ordr
  · rw [s2]; exact h.chg
  · rw [s2]; exact h.chgr
  · rw [e8]; exact h.hold
  · rw [e8]; exact h.holdo
  · rw [e9, e10, e11]; exact h.flag
  · rw [e9, e10, e11, e12]; exact h.firm
  · rw [e28, s2]; exact h.lrn
  · rw [e13]; exact h.serv
  · rw [e14]; exact h.secr
  · rw [e15]; exact h.quar
  · rw [e16]; exact h.sile
  · rw [e17]; exact h.call
  · rw [e13, e18]; exact h.by
  · rw [e13, e18]; exact h.byn
  · rw [e8, e13]; exact h.held
  · rw [e13, e15]; exact h.oth
  · rw [s1]; exact h.orv
  · rw [e19, e20, e21, e22, e23, e24, s1]; exact h.ors
  · rw [e13, e19, e21, s1]; exact h.orw
  · rw [e19, e23, e24, s1]; exact h.ordd
  · rw [e19, e21, s1]; exact h.uniq
  · rw [e25, e26, e27, s2]; exact h.cat
  · exact fun f i a b c d => by rw [g f a b]; exact h.tab f i a b c d
  · exact fun f m a b c d => by rw [g f a b]; exact h.tabr f m a b c d
  · exact h.trng
  · rw [e13]; exact er
  · exact e3
/-- the holders -/
def x_hl (f h : Int) : Nat → Nat → zS → zS
  | _, 0, X => X
  | b, k + 1, X => x_hl f h (b + 1) k (z_sA X 8 b (if X.2.1 8 b = f then h else X.2.1 8 b))
def y_hl (f h : Int) : Nat → Nat → zS → zS
  | _, 0, T => T
  | b, k + 1, T => y_hl f h (b + 1) k (z_sA T 7 b (if T.2.1 7 b = f then h else T.2.1 7 b))
theorem rel_hl {f h : Int} (hh : 0 ≤ h ∧ h < 6) : ∀ (k b : Nat) (X T : zS), b + k = 4 → Rel X T → Rel (x_hl f h b k X) (y_hl f h b k T)
  | 0, _, _, _, _, r => r
  | k + 1, b, X, T, hb, r => by
    have q := r.hold b (by omega) (by omega)
    rw [x_hl, y_hl, q.1]
    refine rel_hl hh k (b + 1) _ _ (by omega) (rel_hold r (by omega) (by split <;> omega) (fun e i x y g => Classical.byContradiction fun w => ?_))
    have := r.held i x y w
    rw [g] at this
    split at e <;> omega
theorem x_hl_at {f h : Int} : ∀ (k b : Nat) (X : zS), (x_hl f h b k X).1 = X.1 ∧ (∀ q, q ≠ 8 → (x_hl f h b k X).2.1 q = X.2.1 q) ∧ (x_hl f h b k X).2.2 = X.2.2 ∧ ∀ j : Int, (x_hl f h b k X).2.1 8 j = if (b ≤ j ∧ j < (b + k : Nat)) ∧ X.2.1 8 j = f then h else X.2.1 8 j
  | 0, b, X => by
    refine ⟨rfl, fun _ _ => rfl, rfl, fun j => ?_⟩
    rw [if_neg (by omega)]
    rfl
  | k + 1, b, X => by
    obtain ⟨g1, g2, g3, g4⟩ := x_hl_at (f := f) (h := h) k (b + 1) (z_sA X 8 b (if X.2.1 8 b = f then h else X.2.1 8 b))
    rw [x_hl]
    refine ⟨g1, fun q hq => (g2 q hq).trans (funext fun j => za_ne hq), g3, fun j => ?_⟩
    rw [g4 j]
    by_cases c : j = b
    · rw [c, za_eq, if_neg (by omega)]
      by_cases e : X.2.1 8 b = f
      · rw [if_pos e, if_pos ⟨by omega, e⟩]
      · rw [if_neg e, if_neg (fun w => e w.2)]
    · rw [za_ni c]
      have w2 : (((b + 1 : Nat) : Int) ≤ j ∧ j < ((b + 1 + k : Nat) : Int)) ↔ ((b : Int) ≤ j ∧ j < ((b + (k + 1) : Nat) : Int)) := by omega
      simp only [w2]
/-- the law: one number; S is how all stood before -/
def y_e1 (f h : Int) (S Y : zS) (i : Nat) : zS :=
  if S.2.1 40 i = f then (if S.2.1 7 ((i : Int) / 3) = f then z_sA (z_sA Y 41 i (-1)) 40 i h else y_gt (z_sA Y 41 i (-1)) i h)
  else if S.2.1 40 i = h ∧ S.2.1 7 ((i : Int) / 3) = f then y_gt Y i h else Y
def y_el (f h : Int) (S : zS) : Nat → Nat → zS → zS
  | _, 0, Y => Y
  | i, k + 1, Y => y_el f h S (i + 1) k (y_e1 f h S Y i)
def y_ec (f : Int) (S : zS) : Nat → Nat → Int
  | _, 0 => 0
  | i, k + 1 => (if S.2.1 40 i = f then 1 else 0) + y_ec f S (i + 1) k
/-- numbers below j are done, e changes at most -/
def zK (f h : Int) (S : zS) (j e : Nat) (X Y : zS) : Prop :=
  ∃ V : zS, Rel V Y ∧ (∀ q, q ≠ 3 → q ≠ 4 → X.1 q = V.1 q) ∧ (∀ k, 10 ≤ k → k < 39 → ¬ (36 ≤ k ∧ k < 39) → X.2.1 k = V.2.1 k) ∧ (V.2.1 8 = (x_hl f h 0 4 S).2.1 8 ∧ V.2.1 9 = S.2.1 9) ∧ (∀ k : Int, X.2.1 13 k = if (0 ≤ k ∧ k < j) ∧ S.2.1 13 k = f then h else S.2.1 13 k) ∧ X.1 2 ≤ S.1 2 + e
theorem x_ib1_8 {X : zS} {n f h hb : Int} : (x_ib1 X n f h hb).2.1 8 = X.2.1 8 := by
  unfold x_ib1 x_ah x_chg
  funext j
  repeat' split
  all_goals simp [za_sA, za_sS]
theorem x_ib1_f {X : zS} {n f h hb : Int} (c : X.2.1 13 n = f) : x_ib1 X n f h hb = x_ah (z_sA (z_sA X 13 n h) 18 n (-1)) n h (X.2.1 13 n) hb := by
  unfold x_ib1
  rw [if_pos c]
theorem x_ib1_n {X : zS} {n f h hb : Int} (c : ¬ X.2.1 13 n = f) : x_ib1 X n f h hb = x_ah X n h (X.2.1 13 n) hb := by
  unfold x_ib1
  rw [if_neg c]
theorem zK.skip {f h hb : Int} {S X Y : zS} {j e : Nat} (hS : Rel S S) (J : zK f h S j e X Y) (hf : 0 ≤ f) (hh : 0 ≤ h) (hj : j < 200) (hz : ∀ i : Int, 0 ≤ i → i < 12 → ¬ (j : Int) = zdg i) : zK f h S (j + 1) e (x_ib1 X j f h hb) Y ∧ ¬ X.2.1 13 j = f ∧ (x_ib1 X j f h hb).2.1 8 = X.2.1 8 := by
  obtain ⟨V, r, e1, e2, e8, e13, ec⟩ := J
  have es := (hS.oth j (by omega) (by omega) hz).1
  have ex : X.2.1 13 j = -1 := by
    rw [e13 j, if_neg (by omega), es]
  have ei : x_ib1 X j f h hb = X := by
    rw [x_ib1_n (by omega)]
    unfold x_ah
    rw [if_neg (by omega)]
  refine ⟨?_, by omega, x_ib1_8⟩
  rw [ei]
  refine ⟨V, r, e1, e2, e8, fun k => ?_, ec⟩
  rw [e13 k]
  by_cases c : k = j
  · rw [c, if_neg (by omega), if_neg (by omega)]
  · have w2 : (0 ≤ k ∧ k < (j : Int)) ↔ (0 ≤ k ∧ k < ((j + 1 : Nat) : Int)) := by omega
    simp only [w2]
theorem zK.stp {f h hb : Int} {S X Y : zS} {j e i : Nat} (hS : Rel S S) (J : zK f h S j e X Y) (hf : 0 ≤ f ∧ f < 6) (hh : 0 ≤ h ∧ h < 6) (hfh : ¬ f = h) (hi : i < 12) (hj : (j : Int) = zdg i) (ehb : hb = S.2.1 8 ((i : Int) / 3)) (e8x : X.2.1 8 ((i : Int) / 3) = if S.2.1 8 ((i : Int) / 3) = f then h else S.2.1 8 ((i : Int) / 3)) : zK f h S (j + 1) (e + 1) (x_ib1 X j f h hb) (y_e1 f h S Y i) ∧ (X.2.1 13 j = f ↔ S.2.1 40 i = f) ∧ (x_ib1 X j f h hb).2.1 8 = X.2.1 8 := by
  obtain ⟨V, r, e1, e2, e8, e13, ec⟩ := J
  have hd := zdg_rng (i := (i : Int)) (by omega)
  have hsv := hS.serv i (by omega) (by omega)
  have hho := hS.hold ((i : Int) / 3) (by omega) (by omega)
  have ex : X.2.1 13 j = S.2.1 13 j := by
    rw [e13 j, if_neg (by omega)]
  have evx : V.2.1 13 = X.2.1 13 := (e2 13 (by omega) (by omega) (by omega)).symm
  have e18 : V.2.1 18 = X.2.1 18 := (e2 18 (by omega) (by omega) (by omega)).symm
  have hx8 := x_hl_at (f := f) (h := h) 4 0 S
  have ev8 : V.2.1 8 ((i : Int) / 3) = if S.2.1 8 ((i : Int) / 3) = f then h else S.2.1 8 ((i : Int) / 3) := by
    rw [e8.1, hx8.2.2.2]
    by_cases c : S.2.1 8 ((i : Int) / 3) = f
    · rw [if_pos c, if_pos ⟨by omega, c⟩]
    · rw [if_neg c, if_neg (fun w => c w.2)]
  have en : V.1 0 = X.1 0 := (e1 0 (by omega) (by omega)).symm
  have e13' : ∀ (Z : zS), (∀ k : Int, Z.2.1 13 k = if k = j then (if S.2.1 13 j = f then h else S.2.1 13 j) else X.2.1 13 k) → ∀ k : Int, Z.2.1 13 k = if (0 ≤ k ∧ k < (j + 1 : Nat)) ∧ S.2.1 13 k = f then h else S.2.1 13 k := by
    intro Z hZ k
    rw [hZ k]
    by_cases c : k = j
    · rw [if_pos c, c]
      by_cases c2 : S.2.1 13 j = f
      · rw [if_pos c2, if_pos ⟨by omega, c2⟩]
      · rw [if_neg c2, if_neg (fun w => c2 w.2)]
    · rw [if_neg c, e13 k]
      have w2 : (0 ≤ k ∧ k < (j : Int)) ↔ (0 ≤ k ∧ k < ((j + 1 : Nat) : Int)) := by omega
      simp only [w2]
  have z13 : (z_sA (z_sA X 13 j h) 18 j (-1)).2.1 13 j = h := by rw [za_ne (by omega), za_eq]
  have z8 : ∀ m, (z_sA (z_sA X 13 j h) 18 j (-1)).2.1 8 m = X.2.1 8 m := fun m => by rw [za_ne (by omega), za_ne (by omega)]
  refine ⟨?_, by rw [ex, hsv.1, hj], x_ib1_8⟩
  unfold y_e1
  rw [hsv.1, hho.1, ← hj]
  have hdj : (j : Int) / 10 = (i : Int) / 3 := by omega
  by_cases c1 : S.2.1 13 j = f
  · rw [if_pos c1]
    have hvs : ¬ V.2.1 13 (zdg i) = -1 := by rw [evx, ← hj]; omega
    have r1 := rel_by r (i := (i : Int)) (v := -1) (by omega) hvs
    rw [← hj] at r1 hvs
    by_cases c2 : S.2.1 8 ((i : Int) / 3) = f
    · rw [if_pos c2]
      have r2 := rel_srv r1 (i := (i : Int)) (f := h) (by omega) hh (by rw [← hj, za_ne (by omega)]; exact hvs)
      rw [← hj] at r2
      have ei : x_ib1 X j f h hb = z_sA (z_sA X 13 j h) 18 j (-1) := by
        rw [x_ib1_f (ex.trans c1)]
        unfold x_ah
        rw [if_pos z13, z8, hdj, e8x, if_pos c2, if_pos rfl, if_pos (by omega)]
      rw [ei]
      refine ⟨_, r2, fun q a b => ?_, fun k a b c => funext fun m => ?_, ⟨?_, ?_⟩, e13' _ (fun k => ?_), by show X.1 2 ≤ S.1 2 + ((e + 1 : Nat) : Int); omega⟩
      · unfold x_note
        rw [zv_sS, if_neg a]
        exact e1 q a b
      · have e2k := congrFun (e2 k a b c) m
        by_cases k18 : k = 18
        · subst k18
          simp [x_note, za_sA, za_sS, e2k]
        · by_cases k13 : k = 13
          · subst k13
            simp [x_note, za_sA, za_sS, e2k]
          · have k36 : k ≠ 36 := by omega
            have k37 : k ≠ 37 := by omega
            have k38 : k ≠ 38 := by omega
            simp [x_note, za_sA, za_sS, zv_sA, zv_sS, e2k, k18, k13, k36, k37, k38]
      · rw [← e8.1]
        funext m
        simp [x_note, za_sS, za_sA]
      · rw [← e8.2]
        funext m
        simp [x_note, za_sS, za_sA]
      · rw [if_pos c1]
        simp [za_sA]
    · rw [if_neg c2]
      have r2 := rel_mv r1 (i := (i : Int)) (f := h) (by omega) hh (by rw [← hj, za_ne (by omega)]; exact hvs)
      rw [← hj] at r2
      have ei : x_ib1 X j f h hb = x_chg (z_sA (z_sA X 13 j h) 18 j (-1)) (X.1 0) j (if V.2.1 8 ((j : Int) / 10) = h then 6 else h) := by
        rw [x_ib1_f (ex.trans c1)]
        unfold x_ah
        rw [if_pos z13, z8, hdj, e8x, ev8, if_neg c2]
        by_cases c3 : S.2.1 8 ((i : Int) / 3) = h
        · rw [if_pos c3, if_pos c3, if_neg (by omega)]
          rfl
        · rw [if_neg c3, if_neg c3, if_neg (by omega)]
          rfl
      rw [ei]
      refine ⟨_, r2, fun q a b => ?_, fun k a b c => funext fun m => ?_, ⟨?_, ?_⟩, e13' _ (fun k => ?_), by show X.1 2 + 1 ≤ S.1 2 + ((e + 1 : Nat) : Int); omega⟩
      · have e2' : X.1 2 = V.1 2 := e1 2 (by omega) (by omega)
        unfold x_mv x_chg x_note
        rw [zv_sS, zv_sS]
        by_cases q2 : q = 2
        · rw [if_pos q2, if_pos q2]
          show X.1 2 + 1 = V.1 2 + 1
          omega
        · rw [if_neg q2, if_neg q2]
          show X.1 q = (z_sS _ 3 _).1 q
          rw [zv_sS, if_neg a]
          exact e1 q a b
      · have e2' : X.1 2 = V.1 2 := e1 2 (by omega) (by omega)
        have e2k := congrFun (e2 k a b c) m
        by_cases k18 : k = 18
        · subst k18
          simp [x_mv, x_chg, x_note, za_sA, za_sS, e2k]
        · by_cases k13 : k = 13
          · subst k13
            simp [x_mv, x_chg, x_note, za_sA, za_sS, e2k]
          · have k36 : k ≠ 36 := by omega
            have k37 : k ≠ 37 := by omega
            have k38 : k ≠ 38 := by omega
            simp [x_mv, x_chg, x_note, za_sA, za_sS, zv_sA, zv_sS, e2k, e2', en, k18, k13, k36, k37, k38]
      · rw [← e8.1]
        funext m
        simp [x_mv, x_chg, x_note, za_sS, za_sA]
      · rw [← e8.2]
        funext m
        simp [x_mv, x_chg, x_note, za_sS, za_sA]
      · rw [if_pos c1]
        simp [x_chg, za_sA, za_sS]
  · rw [if_neg c1]
    by_cases c2 : S.2.1 13 j = h ∧ S.2.1 8 ((i : Int) / 3) = f
    · rw [if_pos c2]
      have hvs : ¬ V.2.1 13 (zdg i) = -1 := by rw [evx, ← hj]; omega
      have r2 := rel_mv r (i := (i : Int)) (f := h) (by omega) hh hvs
      rw [← hj] at r2
      have ei : x_ib1 X j f h hb = x_chg X (X.1 0) j 6 := by
        rw [x_ib1_n (by omega)]
        unfold x_ah
        rw [if_pos (by omega), hdj, e8x, if_pos c2.2, if_pos rfl, if_neg (by omega)]
      rw [ei]
      have ev6 : (if V.2.1 8 ((j : Int) / 10) = h then (6 : Int) else h) = 6 := by
        rw [hdj, ev8, if_pos c2.2, if_pos rfl]
      refine ⟨_, r2, fun q a b => ?_, fun k a b c => funext fun m => ?_, ⟨?_, ?_⟩, e13' _ (fun k => ?_), by show X.1 2 + 1 ≤ S.1 2 + ((e + 1 : Nat) : Int); omega⟩
      · have e2' : X.1 2 = V.1 2 := e1 2 (by omega) (by omega)
        unfold x_mv x_chg x_note
        rw [zv_sS, zv_sS]
        by_cases q2 : q = 2
        · rw [if_pos q2, if_pos q2]
          show X.1 2 + 1 = V.1 2 + 1
          omega
        · rw [if_neg q2, if_neg q2]
          show X.1 q = (z_sS _ 3 _).1 q
          rw [zv_sS, if_neg a]
          exact e1 q a b
      · have e2' : X.1 2 = V.1 2 := e1 2 (by omega) (by omega)
        have e2k := congrFun (e2 k a b c) m
        by_cases k13 : k = 13
        · subst k13
          by_cases mj : m = j
          · subst mj
            simp [x_mv, x_chg, x_note, za_sA, za_sS]
            omega
          · simp [x_mv, x_chg, x_note, za_sA, za_sS, e2k, mj]
        · have k36 : k ≠ 36 := by omega
          have k37 : k ≠ 37 := by omega
          have k38 : k ≠ 38 := by omega
          simp [x_mv, x_chg, x_note, za_sA, za_sS, zv_sA, zv_sS, e2k, e2', en, k13, k36, k37, k38, ev6]
      · rw [← e8.1]
        funext m
        simp [x_mv, x_chg, x_note, za_sS, za_sA]
      · rw [← e8.2]
        funext m
        simp [x_mv, x_chg, x_note, za_sS, za_sA]
      · rw [if_neg c1]
        by_cases kj : k = j
        · rw [if_pos kj, kj]
          simp [x_chg, za_sA, za_sS]
          exact ex
        · rw [if_neg kj]
          simp [x_chg, za_sA, za_sS]
    · rw [if_neg c2]
      have ei : x_ib1 X j f h hb = X := by
        rw [x_ib1_n (by omega)]
        unfold x_ah
        by_cases c3 : S.2.1 13 j = h
        · have c4 : ¬ S.2.1 8 ((i : Int) / 3) = f := fun w => c2 ⟨c3, w⟩
          rw [if_pos (by omega), hdj, e8x, if_neg c4]
          by_cases c5 : S.2.1 8 ((i : Int) / 3) = h
          · rw [if_pos c5, if_pos (by omega)]
          · rw [if_neg c5, if_pos (by omega)]
        · rw [if_neg (by omega)]
      rw [ei]
      refine ⟨V, r, e1, e2, e8, e13' _ (fun k => ?_), by omega⟩
      rw [if_neg c1]
      by_cases kj : k = j
      · rw [if_pos kj, kj]
        exact ex
      · rw [if_neg kj]
theorem x_ibl_8 {f h hb : Int} (k i : Nat) (X : zS) : (x_ibl X f h hb i k).2.1 8 = X.2.1 8 := funext fun j => (x_ibl_fr (f := f) (h := h) (hb := hb) k i X).2.1 8 j (by omega) (by omega) (by omega) (by omega) (by omega)
theorem x_ib_8 {f h : Int} {b : Nat} {X : zS} {j : Int} : (x_ib X f h b).2.1 8 j = if j = b ∧ X.2.1 8 j = f then h else X.2.1 8 j := by
  unfold x_ib
  rw [x_ibl_8]
  by_cases c : X.2.1 8 b = f
  · rw [if_pos c]
    by_cases e : j = b
    · rw [e, za_eq, if_pos ⟨rfl, c⟩]
    · rw [za_ni e, if_neg (fun w => e w.1)]
  · rw [if_neg c]
    rw [if_neg (fun w => c (by rw [← w.1]; exact w.2))]
theorem zK.hold {f h : Int} {S X Y : zS} {j e : Nat} (J : zK f h S j e X Y) {b : Int} : zK f h S j e (z_sA X 8 b h) Y := by
  obtain ⟨V, r, e1, e2, e8, e13, ec⟩ := J
  exact ⟨V, r, e1, fun k a b c => (funext fun m => za_ne (by omega)).trans (e2 k a b c), e8, fun k => (za_ne (by omega)).trans (e13 k), ec⟩
/-- one block that is held -/
theorem zK.blk {f h : Int} {S X Y : zS} {b e : Nat} (hS : Rel S S) (J : zK f h S (10 * b) e X Y) (hf : 0 ≤ f ∧ f < 6) (hh : 0 ≤ h ∧ h < 6) (hfh : ¬ f = h) (hb : b < 4) (h8 : X.2.1 8 b = S.2.1 8 b) : zK f h S (10 * (b + 1)) (e + 3) (x_ib X f h b) (y_el f h S (3 * b) 3 Y) ∧ x_ibn X f h b = y_ec f S (3 * b) 3 := by
  have J0 : zK f h S (10 * b) e (if X.2.1 8 b = f then z_sA X 8 b h else X) Y := by
    split
    · exact J.hold
    · exact J
  have g8 : (if X.2.1 8 b = f then z_sA X 8 b h else X).2.1 8 b = if S.2.1 8 b = f then h else S.2.1 8 b := by
    rw [h8]
    by_cases c : S.2.1 8 b = f
    · rw [if_pos c, if_pos c, za_eq]
    · rw [if_neg c, if_neg c, h8]
  unfold x_ib x_ibn
  rw [h8] at J0 g8 ⊢
  generalize (if S.2.1 8 b = f then z_sA X 8 b h else X) = Z at J0 g8
  have d0 : ((3 * b : Nat) : Int) / 3 = b := by omega
  have d1 : ((3 * b + 1 : Nat) : Int) / 3 = b := by omega
  have d2 : ((3 * b + 1 + 1 : Nat) : Int) / 3 = b := by omega
  obtain ⟨J1, n1, f1⟩ := zK.stp (hb := S.2.1 8 b) (i := 3 * b) hS J0 hf hh hfh (by omega) (by unfold zdg; omega) (by rw [d0]) (by rw [d0]; exact g8)
  obtain ⟨J2, n2, f2⟩ := zK.skip (hb := S.2.1 8 b) hS J1 hf.1 hh.1 (by omega) (fun i x y => by unfold zdg; omega)
  obtain ⟨J3, n3, f3⟩ := zK.skip (hb := S.2.1 8 b) hS J2 hf.1 hh.1 (by omega) (fun i x y => by unfold zdg; omega)
  obtain ⟨J4, n4, f4⟩ := zK.skip (hb := S.2.1 8 b) hS J3 hf.1 hh.1 (by omega) (fun i x y => by unfold zdg; omega)
  obtain ⟨J5, n5, f5⟩ := zK.stp (hb := S.2.1 8 b) (i := 3 * b + 1) hS J4 hf hh hfh (by omega) (by unfold zdg; omega) (by rw [d1]) (by rw [d1, f4, f3, f2, f1]; exact g8)
  obtain ⟨J6, n6, f6⟩ := zK.skip (hb := S.2.1 8 b) hS J5 hf.1 hh.1 (by omega) (fun i x y => by unfold zdg; omega)
  obtain ⟨J7, n7, f7⟩ := zK.skip (hb := S.2.1 8 b) hS J6 hf.1 hh.1 (by omega) (fun i x y => by unfold zdg; omega)
  obtain ⟨J8, n8, f8⟩ := zK.skip (hb := S.2.1 8 b) hS J7 hf.1 hh.1 (by omega) (fun i x y => by unfold zdg; omega)
  obtain ⟨J9, n9, f9⟩ := zK.stp (hb := S.2.1 8 b) (i := 3 * b + 1 + 1) hS J8 hf hh hfh (by omega) (by unfold zdg; omega) (by rw [d2]) (by rw [d2, f8, f7, f6, f5, f4, f3, f2, f1]; exact g8)
  obtain ⟨J10, n10, f10⟩ := zK.skip (hb := S.2.1 8 b) hS J9 hf.1 hh.1 (by omega) (fun i x y => by unfold zdg; omega)
  refine ⟨J10, ?_⟩
  simp only [x_ibc, y_ec]
  rw [if_neg n2, if_neg n3, if_neg n4, if_neg n6, if_neg n7, if_neg n8, if_neg n10]
  simp only [n1, n5, n9]
  omega
theorem zK.none {f h hb : Int} {S : zS} (hS : Rel S S) (hf : 0 ≤ f) (hh : 0 ≤ h) {Y : zS} {e : Nat} : ∀ (k j : Nat) (X : zS), 40 ≤ j → j + k ≤ 200 → zK f h S j e X Y → zK f h S (j + k) e (x_ibl X f h hb j k) Y ∧ x_ibc X f h hb j k = 0
  | 0, _, _, _, _, J => ⟨J, rfl⟩
  | k + 1, j, X, h0, h1, J => by
    obtain ⟨J1, n1, f1⟩ := zK.skip (hb := hb) hS J hf hh (by omega) (fun i x y => by unfold zdg; omega)
    obtain ⟨J2, n2⟩ := zK.none (hb := hb) hS hf hh k (j + 1) _ (by omega) (by omega) J1
    rw [x_ibl, x_ibc, if_neg n1, n2, show j + (k + 1) = j + 1 + k by omega]
    exact ⟨J2, rfl⟩
theorem zK.rest {f h : Int} {S : zS} (hS : Rel S S) (hf : 0 ≤ f) (hh : 0 ≤ h) {Y : zS} {e : Nat} : ∀ (k b : Nat) (X : zS), 4 ≤ b → b + k = 20 → (∀ j : Int, b ≤ j → X.2.1 8 j = S.2.1 8 j) → zK f h S (10 * b) e X Y → zK f h S 200 e (x_ebl X f h b k) Y ∧ x_ebn X f h b k = 0 ∧ ∀ j, (x_ebl X f h b k).2.1 8 j = X.2.1 8 j
  | 0, b, X, h0, h1, h8, J => by
    rw [x_ebl_0, x_ebn_0]
    have eb : b = 20 := by omega
    subst eb
    exact ⟨J, rfl, fun _ => rfl⟩
  | k + 1, b, X, h0, h1, h8, J => by
    have q := hS.holdo b (by omega) (by omega)
    have q2 := h8 b (Int.le_refl _)
    obtain ⟨J2, n2⟩ := zK.none (hb := X.2.1 8 b) hS hf hh 10 (10 * b) X (by omega) (by omega) J
    have ei : x_ib X f h b = x_ibl X f h (X.2.1 8 b) (10 * b) 10 := by
      unfold x_ib
      rw [if_neg (by omega)]
    have en : x_ibn X f h b = 0 := by
      unfold x_ibn
      rw [if_neg (by omega), n2]
    have e8 : ∀ j, (x_ib X f h b).2.1 8 j = X.2.1 8 j := fun j => by rw [ei, x_ibl_8]
    obtain ⟨J3, n3, g3⟩ := zK.rest hS hf hh k (b + 1) (x_ib X f h b) (by omega) (by omega) (fun j hj => by rw [e8]; exact h8 j (by omega)) (by rw [ei]; exact J2)
    rw [x_ebl_s, x_ebn_s, n3, en]
    exact ⟨J3, rfl, fun j => (g3 j).trans (e8 j)⟩
theorem y_ec_add {f : Int} {S : zS} : ∀ (a i k : Nat), y_ec f S i (a + k) = y_ec f S i a + y_ec f S (i + a) k
  | 0, i, k => by rw [y_ec, Nat.zero_add, Int.zero_add, Nat.add_zero]
  | a + 1, i, k => by
    rw [show a + 1 + k = (a + k) + 1 by omega, y_ec, y_ec, y_ec_add a (i + 1) k, show i + 1 + a = i + (a + 1) by omega, Int.add_assoc]
theorem y_ec12 {f : Int} {S : zS} : y_ec f S (3 * 0) 3 + (y_ec f S (3 * 1) 3 + (y_ec f S (3 * 2) 3 + (y_ec f S (3 * 3) 3 + 0))) = y_ec f S 0 12 := by
  rw [y_ec_add 3 0 9, y_ec_add 3 (0 + 3) 6, y_ec_add 3 (0 + 3 + 3) 3, Int.add_zero]
theorem zK.all {f h : Int} {S Y X0 : zS} (hS : Rel S S) (s8 : ∀ j, X0.2.1 8 j = S.2.1 8 j) (J : zK f h S 0 0 X0 Y) (hf : 0 ≤ f ∧ f < 6) (hh : 0 ≤ h ∧ h < 6) (hfh : ¬ f = h) : zK f h S 200 12 (x_ebl X0 f h 0 20) (y_el f h S 0 12 Y) ∧ x_ebn X0 f h 0 20 = y_ec f S 0 12 ∧ ∀ j, (x_ebl X0 f h 0 20).2.1 8 j = (x_hl f h 0 4 S).2.1 8 j := by
  obtain ⟨J1, n1⟩ := zK.blk (b := 0) hS J hf hh hfh (by omega) (s8 _)
  have s1 : ∀ j, (x_ib X0 f h 0).2.1 8 j = if j = 0 ∧ S.2.1 8 j = f then h else S.2.1 8 j := fun j => by
    rw [x_ib_8, s8]
    rfl
  obtain ⟨J2, n2⟩ := zK.blk (b := 1) hS J1 hf hh hfh (by omega) (by rw [s1, if_neg (by omega)])
  have s2 : ∀ j, (x_ib (x_ib X0 f h 0) f h 1).2.1 8 j = if (j = 0 ∨ j = 1) ∧ S.2.1 8 j = f then h else S.2.1 8 j := fun j => by
    rw [x_ib_8, s1]
    by_cases c0 : j = 0
    · rw [if_neg (by omega)]
      simp only [c0, true_and, true_or]
    · by_cases c1 : j = 1
      · rw [c1, if_neg (c := (1 : Int) = 0 ∧ _) (by omega)]
        simp
      · rw [if_neg (by omega), if_neg (by omega), if_neg (by omega)]
  obtain ⟨J3, n3⟩ := zK.blk (b := 2) hS J2 hf hh hfh (by omega) (by rw [s2, if_neg (by omega)])
  have s3 : ∀ j, (x_ib (x_ib (x_ib X0 f h 0) f h 1) f h 2).2.1 8 j = if (0 ≤ j ∧ j < 3) ∧ S.2.1 8 j = f then h else S.2.1 8 j := fun j => by
    rw [x_ib_8, s2]
    by_cases c : S.2.1 8 j = f
    · by_cases c0 : j = 0 ∨ j = 1
      · rw [if_neg (by omega), if_pos ⟨c0, c⟩, if_pos ⟨by omega, c⟩]
      · rw [if_neg (c := (j = 0 ∨ j = 1) ∧ _) (fun w => c0 w.1)]
        by_cases c1 : j = 2
        · rw [if_pos ⟨c1, c⟩, if_pos ⟨by omega, c⟩]
        · rw [if_neg (by omega), if_neg (by omega)]
    · rw [if_neg (c := (j = 0 ∨ j = 1) ∧ _) (fun w => c w.2), if_neg (fun w => c w.2), if_neg (fun w => c w.2)]
  obtain ⟨J4, n4⟩ := zK.blk (b := 3) hS J3 hf hh hfh (by omega) (by rw [s3, if_neg (by omega)])
  have s4 : ∀ j, (x_ib (x_ib (x_ib (x_ib X0 f h 0) f h 1) f h 2) f h 3).2.1 8 j = if (0 ≤ j ∧ j < 4) ∧ S.2.1 8 j = f then h else S.2.1 8 j := fun j => by
    rw [x_ib_8, s3]
    by_cases c : S.2.1 8 j = f
    · by_cases c0 : 0 ≤ j ∧ j < 3
      · rw [if_neg (by omega), if_pos ⟨c0, c⟩, if_pos ⟨by omega, c⟩]
      · rw [if_neg (c := (0 ≤ j ∧ j < 3) ∧ _) (fun w => c0 w.1)]
        by_cases c1 : j = 3
        · rw [if_pos ⟨c1, c⟩, if_pos ⟨by omega, c⟩]
        · rw [if_neg (by omega), if_neg (by omega)]
    · rw [if_neg (c := (0 ≤ j ∧ j < 3) ∧ _) (fun w => c w.2), if_neg (fun w => c w.2), if_neg (fun w => c w.2)]
  obtain ⟨J5, n5, s5⟩ := zK.rest hS hf.1 hh.1 16 4 _ (by omega) (by omega) (fun j hj => by rw [s4, if_neg (by omega)]) J4
  have hx := x_hl_at (f := f) (h := h) 4 0 S
  rw [show x_ebl X0 f h 0 20 = x_ebl (x_ib (x_ib (x_ib (x_ib X0 f h 0) f h 1) f h 2) f h 3) f h 4 16 by rw [x_ebl_s, x_ebl_s, x_ebl_s, x_ebl_s]]
  refine ⟨J5, ?_, fun j => ?_⟩
  · rw [x_ebn_s, x_ebn_s, x_ebn_s, x_ebn_s, n1, n2, n3, n4, n5]
    exact y_ec12
  · rw [s5, s4, hx.2.2.2 j]
    have w2 : (0 ≤ j ∧ j < 4) ↔ (((0 : Nat) : Int) ≤ j ∧ j < ((0 + 4 : Nat) : Int)) := by omega
    simp only [w2]
