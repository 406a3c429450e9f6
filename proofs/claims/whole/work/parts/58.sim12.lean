/-! ===== the simulation: end, reverse, the calls ===== -/
theorem zCf.xen {S : zS} {k : Int} {c : Nat} : zCf (x_en S k c) S := by
  unfold x_en
  split
  · exact ((zCf.refl S).fin).note.cf
  · exact (((zCf.refl S).fin).note.cf).chg
theorem sim_end : st_end zInv := by
  intro n S a hn h ha
  have ho := h.ordr
  have ho2 := h.ord
  have hc := h.chg540
  have hc0 := h.chgr
  have hc2 := h.chg
  have hh := h.his572 hn
  have hw := w_end (o := o_end S (S.1 1).toNat a) (c_end (by omega) (by omega) h.nowr (by omega) (by omega))
  have tt : ∀ {U : zS}, U.1 7 = S.1 7 → U.1 8 = S.1 8 → z_Ret mX7_end [zR 7, zI a] U (p_end U (S.1 1).toNat a) := fun {U} u7 u8 => t_end (by rw [u7]; omega) (by omega) (by rw [u8]; omega)
  by_cases e0 : ¬ (0 ≤ a ∧ a < 200)
  · have e : o_end S (S.1 1).toNat a = (.error xI, S) := by unfold o_end; exact if_pos e0
    exact sim_err (k := 1) h (hw (z_she e (by decide +kernel))) e (by decide +kernel) (by decide) (tt rfl rfl) (by unfold p_end; exact if_pos e0)
  · have hs := h.serv a (by omega) (by omega)
    by_cases e1 : S.2.1 13 a = -1
    · have e : o_end S (S.1 1).toNat a = (.error xS, S) := by unfold o_end; exact (if_neg e0).trans (if_pos e1)
      exact sim_err (k := 2) h (hw (z_she e (by decide +kernel))) e (by decide +kernel) (by decide) (tt rfl rfl) (by unfold p_end; exact (if_neg e0).trans (if_pos (show S.2.1 42 a = -1 by omega)))
    · have e : o_end S (S.1 1).toNat a = (zI? (S.2.1 13 a), x_en S a (S.1 1).toNat) := by unfold o_end; exact (if_neg e0).trans (if_neg e1)
      have f : zCf (x_en S a (S.1 1).toNat) S := zCf.xen
      have r := rel_end h (k := a) (by omega) e1
      generalize x_en S a (S.1 1).toNat = X at e f r
      have f42 := f.2 42 (by omega)
      have b := ((f.b (S.2.1 13 a)).en (n := a)).ew (n := a) (c := (S.1 1).toNat)
      exact sim_ok (S2 := y_ew (y_en (z_sS (z_sL X (S.2.1 13 a)) 5 0) a) a (S.1 1).toNat) (hw (z_shk e)) e (tt (f.1 7 (by omega)) (f.1 8 (by omega))) (by
        unfold p_end
        refine (if_neg e0).trans ((if_neg (show ¬ X.2.1 42 a = -1 by rw [f42]; omega)).trans (Prod.ext (show X.2.1 42 a = S.2.1 13 a by rw [f42]; omega) rfl))) b.2.2.1 b.2.2.2 (b.rel r)
/-! a completed order is turned back -/
theorem rel_reverse {n : Nat} {S T : zS} (h : zRel n S T) {o : Int} (ho : 0 ≤ o ∧ o < S.1 1) (hw : S.2.1 19 o = 2) (h13 : ¬ S.2.1 13 (S.2.1 21 o) = -1) (h18 : S.2.1 18 (S.2.1 21 o) = o) : zRel (n + 1) (x_rv S o) (y_rv T o) := by
  have qo := h.ords o ho.1 ho.2
  have qv := h.ordv o ho.1 ho.2
  have qd := h.ordd o ho.1 ho.2 hw
  have hd0 : zPh 0 S := by
    have := h.phi
    show S.1 2 + z_ct (zaway (S.2.1 13) (S.2.1 8)) 200 + 0 ≤ _
    omega
  have he0 : zHi (n + 1) 1 S := by
    have := h.hisr
    show S.1 3 + 1 ≤ ((n + 1 : Nat) : Int) + z_ct (zdone (S.2.1 19)) (S.1 1).toNat
    omega
  obtain ⟨r1, d1, i1⟩ := step_back (n := n + 1) h.up ho hw hd0 (by omega) he0
  have r1b : zRel (n + 1) (x_pay (z_sA S 19 o 4) (S.2.1 23 o) (S.2.1 22 o) 5) (y_pay (z_sA T 48 o 4) (S.2.1 23 o) (S.2.1 22 o) 5) := by
    refine r1.money (fun i _ => rfl) (fun k hk h12 => (x_pay_fr).2.2 k h12) (fun i _ _ => rfl) (fun k h40 h61 => (y_pay_fr).2.2 k (by omega)) (fun f x y => ?_)
    rw [x_pay_z, y_pay_z]
    exact zpay_cong qd.2.1 qv.2.1 (fun f x y => h.acc f x y) f x y
  obtain ⟨r2, d2, i2⟩ := step_mv (k := S.2.1 21 o) (f := S.2.1 23 o) (o := o) (d := 1) (e := 0) r1b qv.1 qd.2.1 h13 d1 i1 (by omega) (by omega) ⟨o.toNat, by rw [show ((o.toNat : Nat) : Int) = o by omega]; exact ho.2, by
    show zdone ((z_sA S 19 o 4).2.1 19) o.toNat = true
    unfold zdone
    rw [show ((o.toNat : Nat) : Int) = o by omega, za_eq]
    rfl, by rw [show ((o.toNat : Nat) : Int) = o by omega]; rfl⟩
  have hb := h.hold (S.2.1 21 o / 10) (by omega) (by omega)
  have r3 := (step_chg r2 (k := S.2.1 21 o) (p := if S.2.1 8 (S.2.1 21 o / 10) = S.2.1 23 o then 6 else S.2.1 23 o) (d := 0) qv.1 (by split <;> omega) d2 (by omega)).1
  refine (r3.cls (S' := x_rv S o) (fun i hi => rfl) (fun k hk => funext fun j => ?_)).mdl (T' := y_rv T o) (fun i h6 h9 => ?_) (fun k h40 h62 => funext fun j => ?_)
  · by_cases c18 : k = 18
    · subst c18
      by_cases cj : j = S.2.1 21 o
      · subst cj
        simp [x_rv, x_mv, x_chg, x_note, x_pay, za_sA, za_sS, zv_sA, zv_sS]
        exact h18
      · simp [x_rv, x_mv, x_chg, x_note, x_pay, za_sA, za_sS, zv_sA, zv_sS, cj]
    · by_cases c12 : k = 12
      · subst c12
        simp [x_rv, x_mv, x_chg, x_note, x_pay, za_sA, za_sS, zv_sA, zv_sS]
      · simp [x_rv, x_mv, x_chg, x_note, x_pay, za_sA, za_sS, zv_sA, zv_sS, c18, c12]
  · unfold y_rv y_ct
    rw [← qo.2.2.1, ← qo.2.2.2.1, ← qo.2.2.2.2.1]
    rfl
  · unfold y_rv y_ct
    rw [← qo.2.2.1, ← qo.2.2.2.1, ← qo.2.2.2.2.1]
    rw [show (y_pay (z_sA T 48 o 4) (S.2.1 23 o) (S.2.1 22 o) 5).2.1 40 = T.2.1 40 from rfl, ← hb.1]
theorem zCf.xrv {S : zS} {o : Int} : zCf (x_rv S o) S := by
  unfold x_rv
  exact (((zCf.refl S).sA (by omega)).mv).pay
theorem sim_reverse : st_reverse zInv := by
  intro n S a hn h ha
  have ho := h.ordr
  have ho2 := h.ord
  have hc := h.chg540
  have hc0 := h.chgr
  have hc2 := h.chg
  have hnow := h.now
  have hnr := h.nowr
  have hh := h.his572 hn
  have hw := w_reverse (o := o_reverse S a) (c_reverse (by omega) h.nowr (by omega) (by omega) (fun o x y => by
    have qv := h.ordv o x y
    exact ⟨qv.1, qv.2.1, qv.2.2, fun z => (h.ordd o x y z).2.1⟩))
  have tt : ∀ {U : zS}, (∀ i, 6 ≤ i → i < 9 → U.1 i = S.1 i) → (∀ k, 40 ≤ k → k < 62 → U.2.1 k = S.2.1 k) → z_Ret mX7_reverse [zR 7, zI a] U (p_reverse U a) := fun {U} u1 u2 => by
    refine t_reverse (by rw [u1 7 (by omega) (by omega)]; omega) (by rw [u1 6 (by omega) (by omega)]; omega) (by rw [u1 8 (by omega) (by omega)]; omega) (fun f x y => by rw [u2 41 (by omega) (by omega)]; exact h.gone' f x y) (fun o x y => ?_)
    rw [u1 7 (by omega) (by omega)] at y
    have q := h.ords o x (by omega)
    have qv := h.ordv o x (by omega)
    rw [u2 50 (by omega) (by omega), u2 51 (by omega) (by omega), u2 48 (by omega) (by omega), u2 52 (by omega) (by omega), u2 54 (by omega) (by omega), ← q.2.2.1, ← q.2.2.2.1, ← q.1, ← q.2.2.2.2.1]
    refine ⟨qv.1, qv.2.1, fun z => ?_⟩
    have qd := h.ordd o x (by omega) z
    exact ⟨qd.2.1, by rw [qd.1]; omega⟩
  by_cases e0 : ¬ (0 ≤ a ∧ a < S.1 1)
  · have e : o_reverse S a = (.error xI, S) := by unfold o_reverse; exact if_pos e0
    exact sim_err (k := 1) h (hw (z_she e (by decide +kernel))) e (by decide +kernel) (by decide) (tt (fun _ _ _ => rfl) (fun _ _ _ => rfl)) (by unfold p_reverse; exact if_pos (show ¬ (0 ≤ a ∧ a < S.1 7) by omega))
  · have q := h.ords a (by omega) (by omega)
    have qv := h.ordv a (by omega) (by omega)
    have hs := h.serv (S.2.1 21 a) qv.1.1 qv.1.2
    have key : (S.2.1 19 a = 2 ∧ S.1 0 - S.2.1 24 a ≤ 60 ∧ ¬ S.2.1 13 (S.2.1 21 a) = -1 ∧ S.2.1 9 (S.2.1 23 a) = 0 ∧ S.2.1 18 (S.2.1 21 a) = a) ↔ (S.2.1 48 a = 2 ∧ S.1 6 - S.2.1 54 a ≤ 60 ∧ ¬ S.2.1 42 (S.2.1 50 a) = -1 ∧ S.2.1 47 (S.2.1 50 a) = a ∧ S.2.1 41 (S.2.1 52 a) = 0) := by
      rw [← q.1, ← q.2.2.1, ← q.2.2.2.2.1, ← hs.1]
      by_cases z : S.2.1 19 a = 2
      · have qd := h.ordd a (by omega) (by omega) z
        have hg := h.gone (S.2.1 23 a) qd.2.1.1 qd.2.1.2
        rw [qd.1, ← hg.1, ← hnow]
        by_cases z2 : S.2.1 13 (S.2.1 21 a) = -1
        · exact ⟨fun w => absurd z2 w.2.2.1, fun w => absurd z2 w.2.2.1⟩
        · rw [h.last _ qv.1.1 qv.1.2 z2]
          exact ⟨fun w => ⟨w.1, w.2.1, w.2.2.1, w.2.2.2.2, w.2.2.2.1⟩, fun w => ⟨w.1, w.2.1, w.2.2.1, w.2.2.2.2, w.2.2.2.1⟩⟩
      · exact ⟨fun w => absurd w.1 z, fun w => absurd w.1 z⟩
    by_cases e1 : ¬ (S.2.1 19 a = 2 ∧ S.1 0 - S.2.1 24 a ≤ 60 ∧ ¬ S.2.1 13 (S.2.1 21 a) = -1 ∧ S.2.1 9 (S.2.1 23 a) = 0 ∧ S.2.1 18 (S.2.1 21 a) = a)
    · have e : o_reverse S a = (.error xS, S) := by unfold o_reverse; exact (if_neg e0).trans (if_pos e1)
      exact sim_err (k := 2) h (hw (z_she e (by decide +kernel))) e (by decide +kernel) (by decide) (tt (fun _ _ _ => rfl) (fun _ _ _ => rfl)) (by unfold p_reverse; exact (if_neg (show ¬ ¬ (0 ≤ a ∧ a < S.1 7) by omega)).trans (if_pos (fun w => e1 (key.mpr w))))
    · have e : o_reverse S a = (zI? (S.2.1 23 a), x_rv S a) := by unfold o_reverse; exact (if_neg e0).trans (if_neg e1)
      have e2 := Classical.not_not.mp e1
      have f : zCf (x_rv S a) S := zCf.xrv
      have r := rel_reverse h (o := a) (by omega) e2.1 e2.2.2.1 e2.2.2.2.2
      generalize x_rv S a = X at e f r
      have b := (f.b (S.2.1 23 a)).rv (o := a)
      exact sim_ok (S2 := y_rv (z_sS (z_sL X (S.2.1 23 a)) 5 0) a) (hw (z_shk e)) e (tt (fun i h6 _ => f.1 i (by omega)) (fun k h40 _ => f.2 k h40)) (by
        unfold p_reverse
        refine (if_neg (show ¬ ¬ (0 ≤ a ∧ a < X.1 7) by rw [f.1 7 (by omega)]; omega)).trans ((if_neg (show ¬ ¬ (X.2.1 48 a = 2 ∧ X.1 6 - X.2.1 54 a ≤ 60 ∧ ¬ X.2.1 42 (X.2.1 50 a) = -1 ∧ X.2.1 47 (X.2.1 50 a) = a ∧ X.2.1 41 (X.2.1 52 a) = 0) from ?_)).trans (Prod.ext ?_ rfl))
        · rw [f.1 6 (by omega), f.2 48 (by omega), f.2 54 (by omega), f.2 50 (by omega), f.2 42 (by omega), f.2 47 (by omega), f.2 52 (by omega), f.2 41 (by omega)]
          exact fun w => w (key.mp e2)
        · show X.2.1 52 a = S.2.1 23 a
          rw [f.2 52 (by omega)]
          exact q.2.2.2.2.1.symm) b.2.2.1 b.2.2.2 (b.rel r)
