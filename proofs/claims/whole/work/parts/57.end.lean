/-! ===== the simulation: one state that bears both ===== -/
/-- U bears the class's part of X and the reference's part of T -/
def zB (v9 : Int) (U X T : zS) : Prop := ((∀ i, i < 5 → U.1 i = X.1 i) ∧ (∀ k, k < 40 → U.2.1 k = X.2.1 k)) ∧ ((∀ i, 6 ≤ i → i < 9 → U.1 i = T.1 i) ∧ (∀ k, 40 ≤ k → k < 62 → U.2.1 k = T.2.1 k)) ∧ (U.1 5 = 0 ∧ U.2.2 = v9)
theorem zB.rel {n : Nat} {v9 : Int} {U X T : zS} (b : zB v9 U X T) (h : zRel n X T) : zRel n U U := (h.cls b.1.1 b.1.2).mdl b.2.1.1 b.2.1.2
theorem zB.r {v9 : Int} {U X T : zS} (b : zB v9 U X T) {k : Nat} (h1 : 40 ≤ k) (h2 : k < 62) : U.2.1 k = T.2.1 k := b.2.1.2 k h1 h2
theorem zB.s {v9 : Int} {U X T : zS} (b : zB v9 U X T) {k : Nat} (h1 : 6 ≤ k) (h2 : k < 9) : U.1 k = T.1 k := b.2.1.1 k h1 h2
theorem zB.sA {v9 : Int} {U X T : zS} (b : zB v9 U X T) {k : Nat} {i v : Int} (hk : 40 ≤ k) : zB v9 (z_sA U k i v) X (z_sA T k i v) := by
  refine ⟨⟨b.1.1, fun q hq => ?_⟩, ⟨b.2.1.1, fun q h1 h2 => ?_⟩, b.2.2⟩
  · rw [← b.1.2 q hq]
    exact funext fun j => za_ne (by omega)
  · funext j
    rw [za_sA, za_sA, b.2.1.2 q h1 h2]
theorem zB.sS {v9 : Int} {U X T : zS} (b : zB v9 U X T) {k : Nat} {v : Int} (hk : 6 ≤ k) : zB v9 (z_sS U k v) X (z_sS T k v) := by
  refine ⟨⟨fun q hq => ?_, b.1.2⟩, ⟨fun q h1 h2 => ?_, b.2.1.2⟩, ?_, b.2.2.2⟩
  · rw [zv_sS, if_neg (by omega)]
    exact b.1.1 q hq
  · rw [zv_sS, zv_sS, b.2.1.1 q h1 h2]
  · rw [zv_sS, if_neg (by omega)]
    exact b.2.2.1
/-- the class's steps leave the reference's part -/
def zCf (X S : zS) : Prop := (∀ i, 5 ≤ i → X.1 i = S.1 i) ∧ (∀ k, 40 ≤ k → X.2.1 k = S.2.1 k)
theorem zCf.refl (S : zS) : zCf S S := ⟨fun _ _ => rfl, fun _ _ => rfl⟩
theorem zCf.sA {X S : zS} (h : zCf X S) {k : Nat} {i v : Int} (hk : k < 40) : zCf (z_sA X k i v) S := ⟨h.1, fun q hq => (funext fun j => za_ne (by omega)).trans (h.2 q hq)⟩
theorem zCf.sS {X S : zS} (h : zCf X S) {k : Nat} {v : Int} (hk : k < 5) : zCf (z_sS X k v) S := ⟨fun q hq => by rw [zv_sS, if_neg (by omega)]; exact h.1 q hq, h.2⟩
theorem zCf.b {X S : zS} (h : zCf X S) (v : Int) : zB v (z_sS (z_sL X v) 5 0) X S := by
  refine ⟨⟨fun q hq => ?_, fun _ _ => rfl⟩, ⟨fun q h6 h9 => ?_, fun k h40 _ => h.2 k h40⟩, rfl, rfl⟩
  · rw [zv_sS, if_neg (by omega)]
    rfl
  · rw [zv_sS, if_neg (by omega)]
    exact h.1 q (by omega)
theorem zCf.trans {X Y S : zS} (h : zCf X Y) (g : zCf Y S) : zCf X S := ⟨fun i hi => (h.1 i hi).trans (g.1 i hi), fun k hk => (h.2 k hk).trans (g.2 k hk)⟩
theorem zCf.chg {X S : zS} (h : zCf X S) {m n p : Int} : zCf (x_chg X m n p) S := by
  unfold x_chg
  exact (((h.sA (by omega)).sA (by omega)).sA (by omega)).sS (by omega)
theorem zCf.note {X S : zS} (h : zCf X S) {m n p : Int} : zCf (x_note X m n p) S := by
  unfold x_note
  exact (((h.sA (by omega)).sA (by omega)).sA (by omega)).sS (by omega)
theorem zCf.pay {X S : zS} (h : zCf X S) {p t m : Int} : zCf (x_pay X p t m) S := by
  unfold x_pay
  exact (h.sA (by omega)).sA (by omega)
theorem zCf.fin {X S : zS} (h : zCf X S) {n m : Int} : zCf (x_fin X n m) S := by
  unfold x_fin
  exact ((((h.sA (by omega)).sA (by omega)).sA (by omega)).sA (by omega)).sA (by omega)
theorem zCf.cf {X S : zS} (h : zCf X S) {n : Int} {c : Nat} : zCf (x_cf X n c) S := by
  unfold x_cf
  cases x_wf X n c with
  | none => exact h
  | some k => exact h.sA (by omega)
theorem zCf.mv {X S : zS} (h : zCf X S) {n f : Int} : zCf (x_mv X n f) S := by
  unfold x_mv
  exact ((h.sA (by omega)).note).chg
/-- the reference's steps, in a state that bears both -/
theorem zB.chg {v9 : Int} {U X T : zS} (b : zB v9 U X T) {n t : Int} : zB v9 (y_chg U n t) X (y_chg T n t) := by
  unfold y_chg
  rw [b.s (k := 8) (by omega) (by omega), b.s (k := 6) (by omega) (by omega)]
  exact (((b.sA (by omega)).sA (by omega)).sA (by omega)).sS (by omega)
theorem zB.pay {v9 : Int} {U X T : zS} (b : zB v9 U X T) {p t m : Int} : zB v9 (y_pay U p t m) X (y_pay T p t m) := by
  unfold y_pay
  rw [b.r (k := 61) (by omega) (by omega)]
  have b2 := b.sA (k := 61) (i := p) (v := z_wr (T.2.1 61 p - m)) (by omega)
  rw [b2.r (k := 61) (by omega) (by omega)]
  exact b2.sA (by omega)
theorem zB.fin {v9 : Int} {U X T : zS} (b : zB v9 U X T) {n : Int} : zB v9 (y_fin U n) X (y_fin T n) := by
  unfold y_fin
  rw [b.s (k := 6) (by omega) (by omega)]
  exact (((b.sA (by omega)).sA (by omega)).sA (by omega)).sA (by omega)
theorem zB.ct {v9 : Int} {U X T : zS} (b : zB v9 U X T) {n f o : Int} : zB v9 (y_ct U n f o) X (y_ct T n f o) := by
  unfold y_ct
  rw [b.r (k := 40) (by omega) (by omega)]
  exact ((b.sA (by omega)).sA (by omega)).chg
theorem zB.en {v9 : Int} {U X T : zS} (b : zB v9 U X T) {n : Int} : zB v9 (y_en U n) X (y_en T n) := by
  unfold y_en
  rw [b.r (k := 42) (by omega) (by omega), b.r (k := 40) (by omega) (by omega)]
  split
  · exact b.fin
  · exact b.chg.fin
theorem zB.ew {v9 : Int} {U X T : zS} (b : zB v9 U X T) {n : Int} {c : Nat} : zB v9 (y_ew U n c) X (y_ew T n c) := by
  unfold y_ew
  rw [y_wf_cong (b.r (k := 48) (by omega) (by omega)) (b.r (k := 50) (by omega) (by omega))]
  split
  · exact b
  · exact b.sA (by omega)
theorem zB.rv {v9 : Int} {U X T : zS} (b : zB v9 U X T) {o : Int} : zB v9 (y_rv U o) X (y_rv T o) := by
  unfold y_rv
  rw [b.r (k := 52) (by omega) (by omega), b.r (k := 51) (by omega) (by omega), b.r (k := 50) (by omega) (by omega)]
  exact ((b.sA (by omega)).pay).ct
/-! ===== the simulation: end ===== -/
theorem wf_stop {n9 : Nat} {S T : zS} (h : zRel n9 S T) (n : Int) : ∃ S1 T1 : zS, zRel n9 S1 T1 ∧ S1 = x_cf S n (S.1 1).toNat ∧ T1 = y_ew T n (S.1 1).toNat ∧ ∀ o : Int, 0 ≤ o → o < S1.1 1 → S1.2.1 19 o = 1 → ¬ S1.2.1 21 o = n := by
  have ho := h.ordr
  have hw := h.wf' n
  cases hx : x_wf S n (S.1 1).toNat with
  | none =>
    rw [hx] at hw
    refine ⟨S, T, h, by unfold x_cf; rw [hx], by unfold y_ew; rw [← hw]; exact (if_pos rfl).symm, fun o x y z w => ?_⟩
    have := z_first_none _ _ hx o.toNat (by omega) (by omega)
    rw [show ((o.toNat : Nat) : Int) = o by omega] at this
    simp [z, w] at this
  | some r =>
    rw [hx] at hw
    have hs := z_first_some _ _ _ hx
    have hp := of_decide_eq_true hs.2
    have hw2 : y_wf T n (S.1 1).toNat = r := hw.symm
    refine ⟨z_sA S 19 r 3, z_sA T 48 r 3, rel_cancel h (by omega) hp.1, by unfold x_cf; rw [hx], by unfold y_ew; rw [hw2, if_neg (by omega)], fun o x y z w => ?_⟩
    by_cases c : o = r
    · simp [za_sA, c] at z
    · have z2 : S.2.1 19 o = 1 := by rw [za_ni c] at z; exact z
      have w2 : S.2.1 21 o = n := by rw [za_ne (by omega)] at w; exact w
      exact c (h.uniq o r x y (by omega) (show (r : Int) < S.1 1 by omega) z2 hp.1 (by rw [w2, hp.2]))
theorem zS_ext {S T : zS} (h1 : S.1 = T.1) (h2 : S.2.1 = T.2.1) (h3 : S.2.2 = T.2.2) : S = T := Prod.ext h1 (Prod.ext h2 h3)
theorem fin_cf {S : zS} {n m : Int} {c : Nat} : x_cf (x_note (x_fin S n m) 0 n (-1)) n c = x_note (x_fin (x_cf S n c) n m) 0 n (-1) := by
  have e : x_wf (x_note (x_fin S n m) 0 n (-1)) n c = x_wf S n c := rfl
  unfold x_cf
  rw [e]
  cases x_wf S n c with
  | none => rfl
  | some r =>
    refine zS_ext rfl (funext fun k => funext fun j => ?_) rfl
    by_cases c : k = 19
    · simp [x_note, x_fin, za_sA, za_sS, zv_sA, zv_sS, c]
    · simp [x_note, x_fin, za_sA, za_sS, zv_sA, zv_sS, c]
theorem fin_chg {T : zS} {n p : Int} : y_fin (y_chg T n p) n = y_chg (y_fin T n) n p := by
  refine zS_ext rfl (funext fun k => funext fun j => ?_) rfl
  by_cases c1 : k = 42
  · simp [y_fin, y_chg, za_sA, za_sS, zv_sA, zv_sS, c1]
  by_cases c2 : k = 44
  · simp [y_fin, y_chg, za_sA, za_sS, zv_sA, zv_sS, c2]
  by_cases c3 : k = 45
  · simp [y_fin, y_chg, za_sA, za_sS, zv_sA, zv_sS, c3]
  by_cases c4 : k = 46
  · simp [y_fin, y_chg, za_sA, za_sS, zv_sA, zv_sS, c4]
  simp [y_fin, y_chg, za_sA, za_sS, zv_sA, zv_sS, c1, c2, c3, c4]
theorem ew_fin {T : zS} {n : Int} {c : Nat} : y_ew (y_fin T n) n c = y_fin (y_ew T n c) n := by
  have e : y_wf (y_fin T n) n c = y_wf T n c := y_wf_cong (T := T) (T' := y_fin T n) rfl rfl c
  unfold y_ew
  rw [e]
  split
  · rfl
  · refine zS_ext rfl (funext fun k => funext fun j => ?_) rfl
    by_cases c : k = 48
    · simp [y_fin, za_sA, za_sS, zv_sA, zv_sS, c]
    · simp [y_fin, za_sA, za_sS, zv_sA, zv_sS, c]
theorem ew_chg {T : zS} {n p : Int} {c : Nat} : y_ew (y_chg T n p) n c = y_chg (y_ew T n c) n p := by
  have e : y_wf (y_chg T n p) n c = y_wf T n c := y_wf_cong (T := T) (T' := y_chg T n p) rfl rfl c
  unfold y_ew
  rw [e]
  split
  · rfl
  · refine zS_ext rfl (funext fun k => funext fun j => ?_) rfl
    by_cases c : k = 48
    · simp [y_chg, za_sA, za_sS, zv_sA, zv_sS, c]
    · simp [y_chg, za_sA, za_sS, zv_sA, zv_sS, c]
theorem rel_end {n : Nat} {S T : zS} (h : zRel n S T) {k : Int} (hk : 0 ≤ k ∧ k < 200) (h13 : ¬ S.2.1 13 k = -1) : zRel (n + 1) (x_en S k (S.1 1).toNat) (y_ew (y_en T k) k (S.1 1).toNat) := by
  obtain ⟨S1, T1, r1, e1, e2, hw⟩ := wf_stop h k
  have hs := h.serv k hk.1 hk.2
  have hh := h.hold (k / 10) (by omega) (by omega)
  have f13 : S1.2.1 13 k = S.2.1 13 k := by
    rw [e1]
    unfold x_cf
    split <;> rfl
  have f8 : S1.2.1 8 (k / 10) = S.2.1 8 (k / 10) := by
    rw [e1]
    unfold x_cf
    split <;> rfl
  have f0 : S1.1 0 = S.1 0 := by
    rw [e1]
    unfold x_cf
    split <;> rfl
  obtain ⟨r2, p2⟩ := step_fin r1 hk hw
  by_cases c : S.2.1 13 k = S.2.1 8 (k / 10)
  · have ex : x_en S k (S.1 1).toNat = x_note (x_fin S1 k (S1.1 0)) 0 k (-1) := by
      unfold x_en
      rw [if_pos c, fin_cf, f0, ← e1]
    have ey : y_ew (y_en T k) k (S.1 1).toNat = y_fin T1 k := by
      unfold y_en
      rw [if_pos (by rw [← hs.1, ← hh.1]; exact c), ew_fin, ← e2]
    rw [ex, ey]
    exact r2
  · have ex : x_en S k (S.1 1).toNat = x_chg (x_note (x_fin S1 k (S1.1 0)) 0 k (-1)) ((x_note (x_fin S1 k (S1.1 0)) 0 k (-1)).1 0) k 6 := by
      rw [show (x_note (x_fin S1 k (S1.1 0)) 0 k (-1)).1 0 = S.1 0 from f0]
      unfold x_en
      rw [if_neg c, fin_cf, f0, ← e1]
    have ey : y_ew (y_en T k) k (S.1 1).toNat = y_chg (y_fin T1 k) k 6 := by
      unfold y_en
      rw [if_neg (by rw [← hs.1, ← hh.1]; exact c), ew_fin, ew_chg, fin_chg, ← e2]
    rw [ex, ey]
    exact (step_chg r2 hk (by omega) (d := 0) (p2 (away_yes hk (by rw [f13]; exact h13) (by rw [f13, f8]; exact c))) (by omega)).1
