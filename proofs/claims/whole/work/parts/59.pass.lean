/-! ===== the simulation: pass, an order is carried out ===== -/
theorem zRel.ph0 {n : Nat} {S T : zS} (h : zRel n S T) : zPh 0 S := by
  have := h.phi
  show S.1 2 + z_ct (zaway (S.2.1 13) (S.2.1 8)) 200 + 0 ≤ 2 * z_ct (zdone (S.2.1 19)) (S.1 1).toNat + 2 * z_ct (zback (S.2.1 19)) (S.1 1).toNat + 60 * z_ct (zgone (S.2.1 9)) 6
  omega
theorem zRel.hi0 {n : Nat} {S T : zS} (h : zRel n S T) : zHi n 0 S := by
  have := h.hisr
  show S.1 3 + 0 ≤ n + z_ct (zdone (S.2.1 19)) (S.1 1).toNat
  omega
theorem zRel.po' {n : Nat} {S T : zS} (h : zRel n S T) : ∀ (k : Nat) (m : Int), x_po S (S.1 1).toNat m k = y_po T (S.1 1).toNat m k
  | 0, _ => rfl
  | k + 1, m => by
    rw [x_po, y_po, h.cwa' m, h.po' k (m + 100)]
theorem rel_co {n : Nat} {S T : zS} (h : zRel n S T) {o : Int} (ho : 0 ≤ o ∧ o < S.1 1) (hw : S.2.1 19 o = 1) (hdue : S.2.1 24 o = S.1 0) : zRel n (x_co S (S.1 1).toNat o) (y_co T (S.1 1).toNat o) ∧ (if (x_co S (S.1 1).toNat o).2.1 19 o = 2 then (1 : Int) else 0) = y_cob T o := by
  have qo := h.ords o ho.1 ho.2
  have qv := h.ordv o ho.1 ho.2
  have qw := h.ordw o ho.1 ho.2 hw
  have qs := h.serv (S.2.1 21 o) qv.1.1 qv.1.2
  have qc := h.call (S.2.1 21 o) qv.1.1 qv.1.2
  have qn := h.now
  have qr := h.nowr
  have hb := h.hold (S.2.1 21 o / 10) (by omega) (by omega)
  unfold x_co y_co y_cob
  rw [← qo.2.2.1, ← qo.2.2.2.1, ← qo.2.2.2.2.2, ← qs.1]
  by_cases c1 : S.1 0 ≤ S.2.1 17 (S.2.1 21 o)
  · have c1' : T.1 6 - T.2.1 46 (S.2.1 21 o) ≤ 30 := by omega
    rw [if_pos c1, if_pos c1', if_pos c1']
    have hm := x_po_rng (S := S) (c := (S.1 1).toNat) 60 (S.2.1 24 o + 100)
    refine ⟨?_, if_neg ?_⟩
    · rw [← h.po']
      exact step_put h ho hw (by omega)
    · rw [za_ne (by omega)]
      omega
  · have c1' : ¬ T.1 6 - T.2.1 46 (S.2.1 21 o) ≤ 30 := by omega
    rw [if_neg c1, if_neg c1', if_neg c1']
    by_cases c2 : S.2.1 13 (S.2.1 21 o) = S.2.1 22 o
    · rw [if_pos c2, if_pos c2, if_pos c2]
      refine ⟨rel_cancel h ho hw, if_neg ?_⟩
      rw [za_eq]
      omega
    · rw [if_neg c2, if_neg c2, if_neg c2]
      refine ⟨?_, if_pos ?_⟩
      · obtain ⟨r1, d1, i1⟩ := step_done h ho hw hdue h.ph0 (by omega) h.hi0 (by omega)
        rw [← qo.2.2.1, ← qs.1] at r1
        have r1b : zRel n (x_pay (z_sA (z_sA S 19 o 2) 23 o (S.2.1 13 (S.2.1 21 o))) (S.2.1 22 o) (S.2.1 13 (S.2.1 21 o)) 5) (y_pay (z_sA (z_sA (z_sA T 52 o (S.2.1 13 (S.2.1 21 o))) 48 o 2) 54 o (T.1 6)) (S.2.1 22 o) (S.2.1 13 (S.2.1 21 o)) 5) := by
          refine r1.money (fun i _ => rfl) (fun k hk h12 => (x_pay_fr).2.2 k h12) (fun i _ _ => rfl) (fun k h40 h61 => (y_pay_fr).2.2 k (by omega)) (fun f x y => ?_)
          rw [x_pay_z, y_pay_z]
          exact zpay_cong qv.2.1 (by omega) (fun f x y => h.acc f x y) f x y
        obtain ⟨r2, d2, i2⟩ := step_mv (k := S.2.1 21 o) (f := S.2.1 22 o) (o := o) (d := 1) (e := 0) r1b qv.1 qv.2.1 qw d1 i1 (by omega) (by omega) ⟨o.toNat, by rw [show ((o.toNat : Nat) : Int) = o by omega]; exact ho.2, by
          show zdone ((z_sA S 19 o 2).2.1 19) o.toNat = true
          unfold zdone
          rw [show ((o.toNat : Nat) : Int) = o by omega, za_eq]
          rfl, by rw [show ((o.toNat : Nat) : Int) = o by omega]; rfl⟩
        have r3 := (step_chg r2 (k := S.2.1 21 o) (p := if S.2.1 8 (S.2.1 21 o / 10) = S.2.1 22 o then 6 else S.2.1 22 o) (d := 0) qv.1 (by split <;> omega) d2 (by omega)).1
        refine (r3.cls (S' := x_pay (z_sA (x_mv (z_sA (z_sA S 19 o 2) 23 o (S.2.1 13 (S.2.1 21 o))) (S.2.1 21 o) (S.2.1 22 o)) 18 (S.2.1 21 o) o) (S.2.1 22 o) (S.2.1 13 (S.2.1 21 o)) 5) (fun i hi => rfl) (fun k hk => funext fun j => ?_)).mdl (T' := y_ct (y_pay (z_sA (z_sA (z_sA T 52 o (S.2.1 13 (S.2.1 21 o))) 48 o 2) 54 o (T.1 6)) (S.2.1 22 o) (S.2.1 13 (S.2.1 21 o)) 5) (S.2.1 21 o) (S.2.1 22 o) o) (fun i h6 h9 => ?_) (fun k h40 h62 => funext fun j => ?_)
        · by_cases c18 : k = 18
          · subst c18
            by_cases cj : j = S.2.1 21 o
            · subst cj
              simp [x_mv, x_chg, x_note, x_pay, za_sA, za_sS, zv_sA, zv_sS]
            · simp [x_mv, x_chg, x_note, x_pay, za_sA, za_sS, zv_sA, zv_sS, cj]
          · by_cases c12 : k = 12
            · subst c12
              simp [x_mv, x_chg, x_note, x_pay, za_sA, za_sS, zv_sA, zv_sS]
            · simp [x_mv, x_chg, x_note, x_pay, za_sA, za_sS, zv_sA, zv_sS, c18, c12]
        · rfl
        · unfold y_ct
          rw [show (y_pay (z_sA (z_sA (z_sA T 52 o (S.2.1 13 (S.2.1 21 o))) 48 o 2) 54 o (T.1 6)) (S.2.1 22 o) (S.2.1 13 (S.2.1 21 o)) 5).2.1 40 = T.2.1 40 from rfl, ← hb.1]
      · simp [x_mv, x_chg, x_note, x_pay, za_sA, za_sS, zv_sA, zv_sS]
theorem x_co_11 {S : zS} {c : Nat} {o : Int} : (x_co S c o).1 1 = S.1 1 ∧ (x_co S c o).1 0 = S.1 0 := by
  unfold x_co
  split
  · exact ⟨rfl, rfl⟩
  · split <;> exact ⟨rfl, rfl⟩
theorem rel_cd {n c : Nat} : ∀ (k i : Nat) (S T : zS), i + k = c → (S.1 1).toNat = c → zRel n S T → zRel n (x_cd S c i k) (y_cd T c i k) ∧ x_cdn S c i k = y_cdn T c i k
  | 0, _, _, _, _, _, h => ⟨h, rfl⟩
  | k + 1, i, S, T, hi, hc, h => by
    have ho := h.ordr
    have qo := h.ords i (by omega) (by omega)
    rw [x_cd, y_cd, x_cdn, y_cdn]
    by_cases e : S.2.1 19 i = 1 ∧ S.2.1 24 i = S.1 0
    · have e2 : T.2.1 48 i = 1 ∧ T.2.1 53 i = T.1 6 := by rw [← qo.1, ← qo.2.2.2.2.2, ← h.now]; exact e
      obtain ⟨r, v⟩ := rel_co h (o := i) (by omega) e.1 e.2
      rw [hc] at r v
      obtain ⟨g1, g2⟩ := rel_cd (n := n) (c := c) k (i + 1) (x_co S c i) (y_co T c i) (by omega) (by rw [x_co_11.1]; exact hc) r
      rw [if_pos e, if_pos e2, if_pos e2, g2, ← v]
      refine ⟨g1, ?_⟩
      by_cases z : (x_co S c i).2.1 19 i = 2
      · rw [if_pos ⟨e, z⟩, if_pos z]
      · rw [if_neg (fun w => z w.2), if_neg z]
    · have e2 : ¬ (T.2.1 48 i = 1 ∧ T.2.1 53 i = T.1 6) := by rw [← qo.1, ← qo.2.2.2.2.2, ← h.now]; exact e
      obtain ⟨g1, g2⟩ := rel_cd (n := n) (c := c) k (i + 1) S T (by omega) hc h
      rw [if_neg e, if_neg e2, if_neg e2, g2, if_neg (fun w => e w.1)]
      exact ⟨g1, rfl⟩
