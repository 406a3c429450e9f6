/-! ===== the simulation: pass, the call ===== -/
theorem zCf.xco {X S : zS} (h : zCf X S) {c : Nat} {o : Int} : zCf (x_co X c o) S := by
  unfold x_co
  split
  · exact h.sA (by omega)
  · split
    · exact h.sA (by omega)
    · exact ((((h.sA (by omega)).sA (by omega)).mv).sA (by omega)).pay
theorem zCf.xcd {S : zS} {c : Nat} : ∀ (k i : Nat) (X : zS), zCf X S → zCf (x_cd X c i k) S
  | 0, _, _, h => h
  | k + 1, i, X, h => by
    rw [x_cd]
    refine zCf.xcd k (i + 1) _ ?_
    split
    · exact h.xco
    · exact h
theorem zCf.xlu {S : zS} {f m : Int} (hf : 0 ≤ f ∧ f < 6) : ∀ (k i : Nat) (X : zS), zCf X S → zCf (x_lu X f m i k) S
  | 0, i, X, h => by
    rw [x_lu]
    exact h.sA (by omega)
  | k + 1, i, X, h => by
    rw [x_lu]
    split
    · exact zCf.xlu hf k (i + 1) _ (h.sA (by omega))
    · exact h.sA (by omega)
theorem zCf.xli {S : zS} {c2 : Nat} : ∀ (k i : Nat) (X : zS), i + k = 6 → zCf X S → zCf (x_li X c2 i k) S
  | 0, _, _, _, h => h
  | k + 1, i, X, hi, h => by
    rw [x_li]
    refine zCf.xli k (i + 1) _ (by omega) ?_
    unfold x_li1
    split
    · exact zCf.xlu (by omega) _ _ _ h
    · exact h
theorem zCf.xps {S : zS} {c : Nat} : ∀ (k : Nat) (X : zS), zCf X S → zCf (x_ps X c k) S
  | 0, _, h => h
  | k + 1, X, h => by
    rw [x_ps]
    refine zCf.xps k _ ?_
    unfold x_min
    exact zCf.xli _ _ _ (by omega) (zCf.xcd _ _ _ (h.sS (by omega)))
theorem zB.cwa {v9 : Int} {U X T : zS} (b : zB v9 U X T) {m : Int} {c : Nat} : y_cwa U m c = y_cwa T m c := by
  unfold y_cwa
  rw [b.r (k := 48) (by omega) (by omega), b.r (k := 53) (by omega) (by omega)]
theorem zB.po {v9 : Int} {U X T : zS} (b : zB v9 U X T) {c : Nat} : ∀ (k : Nat) (m : Int), y_po U c m k = y_po T c m k
  | 0, _ => rfl
  | k + 1, m => by rw [y_po, y_po, b.cwa, b.po k (m + 100)]
theorem zB.co {v9 : Int} {U X T : zS} (b : zB v9 U X T) {c : Nat} {o : Int} : zB v9 (y_co U c o) X (y_co T c o) := by
  unfold y_co
  rw [b.r (k := 50) (by omega) (by omega), b.r (k := 46) (by omega) (by omega), b.r (k := 42) (by omega) (by omega), b.r (k := 51) (by omega) (by omega), b.r (k := 53) (by omega) (by omega), b.s (k := 6) (by omega) (by omega), b.po]
  split
  · exact b.sA (by omega)
  · split
    · exact b.sA (by omega)
    · exact ((((b.sA (by omega)).sA (by omega)).sA (by omega)).pay).ct
theorem zB.cob {v9 : Int} {U X T : zS} (b : zB v9 U X T) {o : Int} : y_cob U o = y_cob T o := by
  unfold y_cob
  rw [b.r (k := 50) (by omega) (by omega), b.r (k := 46) (by omega) (by omega), b.r (k := 42) (by omega) (by omega), b.r (k := 51) (by omega) (by omega), b.s (k := 6) (by omega) (by omega)]
theorem zB.cd {v9 : Int} {X : zS} {c : Nat} : ∀ (k i : Nat) (U T : zS), zB v9 U X T → zB v9 (y_cd U c i k) X (y_cd T c i k) ∧ y_cdn U c i k = y_cdn T c i k
  | 0, _, _, _, b => ⟨b, rfl⟩
  | k + 1, i, U, T, b => by
    rw [y_cd, y_cd, y_cdn, y_cdn, b.r (k := 48) (by omega) (by omega), b.r (k := 53) (by omega) (by omega), b.s (k := 6) (by omega) (by omega), b.cob]
    by_cases e : T.2.1 48 i = 1 ∧ T.2.1 53 i = T.1 6
    · rw [if_pos e, if_pos e, if_pos e]
      obtain ⟨g1, g2⟩ := zB.cd (c := c) k (i + 1) _ _ (b.co (c := c) (o := i))
      exact ⟨g1, by rw [g2]⟩
    · rw [if_neg e, if_neg e, if_neg e]
      obtain ⟨g1, g2⟩ := zB.cd (c := c) k (i + 1) _ _ b
      exact ⟨g1, by rw [g2]⟩
theorem zB.ln {v9 : Int} {X : zS} {f : Int} : ∀ (k : Nat) (U T : zS), zB v9 U X T → zB v9 (y_ln U f k) X (y_ln T f k)
  | 0, _, _, b => b
  | k + 1, U, T, b => by
    rw [y_ln, y_ln, b.r (k := 55) (by omega) (by omega), b.r (k := 58) (by omega) (by omega), b.r (k := 59) (by omega) (by omega), b.s (k := 6) (by omega) (by omega)]
    split
    · exact zB.ln k _ _ (b.sA (by omega))
    · exact b
theorem zB.le {v9 : Int} {X : zS} : ∀ (k i : Nat) (U T : zS), zB v9 U X T → zB v9 (y_le U i k) X (y_le T i k)
  | 0, _, _, _, b => b
  | k + 1, i, U, T, b => by
    rw [y_le, y_le]
    refine zB.le k (i + 1) _ _ ?_
    unfold y_le1
    rw [b.r (k := 60) (by omega) (by omega), b.r (k := 58) (by omega) (by omega), b.s (k := 8) (by omega) (by omega)]
    split
    · exact zB.ln _ _ _ b
    · exact b
theorem zB.min {v9 : Int} {U X T : zS} {c : Nat} (b : zB v9 U X T) : zB v9 (y_min U c) X (y_min T c) ∧ y_minn U c = y_minn T c := by
  unfold y_min y_minn
  rw [b.s (k := 6) (by omega) (by omega)]
  obtain ⟨g1, g2⟩ := zB.cd (c := c) c 0 _ _ (b.sS (k := 6) (v := T.1 6 + 1) (by omega))
  exact ⟨zB.le _ _ _ _ g1, g2⟩
theorem zB.ps {v9 : Int} {X : zS} {c : Nat} : ∀ (k : Nat) (U T : zS), zB v9 U X T → zB v9 (y_ps U c k) X (y_ps T c k) ∧ y_psn U c k = y_psn T c k
  | 0, _, _, b => ⟨b, rfl⟩
  | k + 1, U, T, b => by
    obtain ⟨g1, g2⟩ := b.min (c := c)
    obtain ⟨k1, k2⟩ := zB.ps (c := c) k _ _ g1
    rw [y_ps, y_ps, y_psn, y_psn, g2, k2]
    exact ⟨k1, rfl⟩
theorem sim_pass : st_pass zInv := by
  intro n S a hn h ha
  have ho := h.ordr
  have hnow := h.now
  have hnr := h.nowr
  have hw := w_pass (o := o_pass S (S.1 1).toNat a) (c_pass h.xP' (fun a1 a2 a3 => by
    have r := (rel_ps (n := n) (c := (S.1 1).toNat) a.toNat S S h rfl (by omega)).1
    have q1 := r.chg540
    have q2 := r.his572 hn
    omega))
  by_cases e0 : ¬ (1 ≤ a ∧ a ≤ 100)
  · have e : o_pass S (S.1 1).toNat a = (.error xA, S) := by unfold o_pass; exact if_pos e0
    exact sim_err (k := 1) (p := (0, z_sS S 5 1)) h (hw (z_she e (by decide +kernel))) e (by decide +kernel) (by decide) (t_pass_1 e0) rfl
  · by_cases e1 : 9999 < S.1 0 + a
    · have e : o_pass S (S.1 1).toNat a = (.error xS, S) := by unfold o_pass; exact (if_neg e0).trans (if_pos e1)
      exact sim_err (k := 2) (p := (0, z_sS S 5 2)) h (hw (z_she e (by decide +kernel))) e (by decide +kernel) (by decide) (t_pass_2 (by omega) (by omega) (by omega)) rfl
    · have e : o_pass S (S.1 1).toNat a = (zI? (x_psn S (S.1 1).toNat a.toNat), x_ps S (S.1 1).toNat a.toNat) := by unfold o_pass; exact (if_neg e0).trans (if_neg e1)
      obtain ⟨r, v⟩ := rel_ps (n := n) (c := (S.1 1).toNat) a.toNat S S h rfl (by omega)
      have f : zCf (x_ps S (S.1 1).toNat a.toNat) S := zCf.xps _ _ (zCf.refl S)
      rw [v] at e
      generalize x_ps S (S.1 1).toNat a.toNat = X at e f r
      have hu : zRel n S (z_sL X (y_psn S (S.1 1).toNat a.toNat)) := h.mdl (fun i h6 _ => f.1 i (by omega)) (fun k h40 _ => f.2 k h40)
      obtain ⟨b, bv⟩ := zB.ps (c := (S.1 1).toNat) a.toNat _ _ (f.b (y_psn S (S.1 1).toNat a.toNat))
      have hchg := (b.rel r).chg540
      have hchg2 := (b.rel r).chg
      have ht := t_pass_0 (m := a) (c := (S.1 1).toNat) hu.yP' (by omega) (by show X.1 6 + a ≤ 9999; rw [f.1 6 (by omega)]; omega) (by omega)
      exact sim_ok (S2 := y_ps (z_sS (z_sL X (y_psn S (S.1 1).toNat a.toNat)) 5 0) (S.1 1).toNat a.toNat) (p := (y_psn (z_sS (z_sL X (y_psn S (S.1 1).toNat a.toNat)) 5 0) (S.1 1).toNat a.toNat, y_ps (z_sS (z_sL X (y_psn S (S.1 1).toNat a.toNat)) 5 0) (S.1 1).toNat a.toNat)) (hw (z_shk e)) e ht (Prod.ext bv rfl) b.2.2.1 b.2.2.2 (b.rel r.up)
