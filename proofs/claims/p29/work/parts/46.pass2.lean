/-! ===== minutes go by: both sides ===== -/
/-- while minutes go by -/
abbrev zW (n c : Nat) (X T : zS) : Prop := Rel X T ∧ (∀ f : Int, 0 ≤ f → f < 6 → -(8 * (n : Int) + 5 * X.1 2) ≤ X.2.1 12 f ∧ X.2.1 12 f ≤ 8 * (n : Int) + 5 * X.1 2) ∧ X.1 3 ≤ (n : Int) + X.1 2 ∧ X.1 1 = c ∧ X.1 2 + (x_cw X c : Int) ≤ 57
theorem zW.ab {n c : Nat} {X T : zS} (h : zW n c X T) (hn : n < 150) : zAb X := fun f a b => by
  have q := h.2.1 f a b
  have w := h.2.2.2.2
  omega
/-- steps that change neither the money nor the counts -/
theorem zW.keep {n c : Nat} {X T X' T' : zS} (h : zW n c X T) (r : Rel X' T') (e12 : X'.2.1 12 = X.2.1 12) (e1 : X'.1 1 = X.1 1) (e2 : X'.1 2 = X.1 2) (e3 : X'.1 3 = X.1 3) (e : x_cw X' c ≤ x_cw X c) : zW n c X' T' := by
  obtain ⟨_, ha, h3, h1, hp⟩ := h
  refine ⟨r, fun f a b => ?_, ?_, ?_, ?_⟩
  · rw [e12, e2]; exact ha f a b
  · rw [e3, e2]; exact h3
  · rw [e1]; exact h1
  · rw [e2]; omega
theorem zOr_mid {x d : Int} (h0 : 0 ≤ x) (h1 : x < 2147483648) (hd : 0 ≤ d ∧ d < 8) : zOr (x / 65536 * 65536 + x % 8192) (d * 8192) = x / 65536 * 65536 + d * 8192 + x % 8192 := by
  obtain ⟨a, rfl⟩ := zb_nat h0
  obtain ⟨m, rfl⟩ := zb_nat hd.1
  have e : (a / 65536 * 2 ^ 16 + a % 8192) ||| (m * 2 ^ 13) = a / 65536 * 2 ^ 16 + (m * 2 ^ 13 + a % 8192) := by
    rw [← zf_or (a := a / 65536) (k := 16) (b := a % 8192) (by omega), Nat.or_assoc, Nat.or_comm (a % 8192), zf_or (k := 13) (by omega), zf_or (k := 16) (by omega)]
  have e1 : (a / 65536 * 65536 + a % 8192) ||| (m * 8192) = a / 65536 * 65536 + (m * 8192 + a % 8192) := e
  have e2 := zOr_n (a := a / 65536 * 65536 + a % 8192) (b := m * 8192) (by rw [e1]; omega)
  rw [e1] at e2
  have x1 : ((a / 65536 * 65536 + a % 8192 : Nat) : Int) = (a : Int) / 65536 * 65536 + (a : Int) % 8192 := by omega
  have x2 : ((m * 8192 : Nat) : Int) = (m : Int) * 8192 := Int.natCast_mul m 8192
  rw [← x1, ← x2, e2]
  clear e e1 e2 x1 x2
  have x3 : ((a / 65536 * 65536 + (m * 8192 + a % 8192) : Nat) : Int) = (a : Int) / 65536 * 65536 + ((m : Int) * 8192 + (a : Int) % 8192) := rfl
  have x4 : ((m * 8192 : Nat) : Int) = (m : Int) * 8192 := Int.natCast_mul m 8192
  rw [x3, x4, Int.add_assoc]
theorem rel_dn {X T : zS} (r : Rel X T) (hb : zAb X) {o i w d : Int} (ho : 0 ≤ o ∧ o < X.1 1) (hw : X.2.1 19 o = 1) (hdue : X.2.1 24 o = X.1 0) (hi : 0 ≤ i ∧ i < 12) (hv : 0 ≤ w ∧ w < 6) (hd : 0 ≤ d ∧ d < 6) (hs : ¬ X.2.1 13 (zdg i) = -1) : Rel (x_pay (z_sA (x_mv (z_sA (z_sA X 19 o 2) 23 o d) (zdg i) w) 18 (zdg i) o) w d 5) (y_dn T o i w d) := by
  have r1 := rel_done r ho hw hd hdue rfl
  have r2 := rel_pay r1 (p := w) (t := d) (m := 5) (k := 5120) hb hv hd (by omega) (by omega)
  have r3 := rel_mv r2 (i := i) (f := w) hi hv (by rw [x_pay_ne.2.1 13 (by omega)]; exact hs)
  have r4 := rel_by r3 (i := i) (v := o) hi (by
    intro e
    have : (x_mv (x_pay (z_sA (z_sA X 19 o 2) 23 o d) w d 5) (zdg i) w).2.1 13 (zdg i) = w := by
      simp [x_mv, x_chg, x_note, za_sA, za_sS]
    omega)
  refine r4.cls ⟨fun q _ => rfl, fun k _ _ _ => funext fun j => ?_⟩
  by_cases c : k = 12
  · subst c
    simp [x_mv, x_chg, x_note, x_pay, za_sA, za_sS]
  · by_cases c18 : k = 18
    · subst c18
      simp [x_mv, x_chg, x_note, x_pay, za_sA, za_sS, zv_sA, zv_sS]
    · simp [x_mv, x_chg, x_note, x_pay, za_sA, za_sS, zv_sA, zv_sS, c, c18]
theorem rel_co {n c : Nat} {X T : zS} (h : zW n c X T) (hn : n < 150) {o : Int} (ho : 0 ≤ o ∧ o < c) (hw : X.2.1 19 o = 1) (hdue : X.2.1 24 o = X.1 0) : zW n c (x_co X c o) (y_co T c o) ∧ (if (x_co X c o).2.1 19 o = 2 then (1 : Int) else 0) = y_cob T o := by
  have hb := h.ab hn
  have hh := h
  obtain ⟨r, ha, h3, h1, hp⟩ := h
  have ho1 : 0 ≤ o ∧ o < X.1 1 := by omega
  have qo := r.ors o ho.1 ho1.2
  have qv := r.orv o ho.1 ho1.2
  have qw := r.orw o ho.1 ho1.2 hw
  have hnow := r.now
  have hnr := r.nowr
  obtain ⟨i, ei⟩ : ∃ i, i = T.2.1 42 o / 64 % 16 := ⟨_, rfl⟩
  obtain ⟨w, ew⟩ : ∃ w, w = T.2.1 42 o / 1024 % 8 := ⟨_, rfl⟩
  have hi : 0 ≤ i ∧ i < 12 := by omega
  have hv : 0 ≤ w ∧ w < 6 := by omega
  have qs := r.serv i hi.1 hi.2
  have qc := r.call i hi.1 hi.2
  rw [← ei] at qo
  rw [← ew] at qo
  rw [qo.2.2.1] at qw
  unfold x_co y_co y_cob
  rw [← ei, ← ew, qo.2.2.1, qo.2.2.2.1, qc, hnow, qs.1]
  by_cases c1 : X.1 0 ≤ X.2.1 17 (zdg i)
  · rw [if_pos c1, if_pos c1, if_pos c1]
    have ec : (X.1 1).toNat = c := by omega
    have hpo := r.po' 60 (X.2.1 24 o + 100)
    have hm := y_po_rng (S := T) (c := c) 60 (X.2.1 24 o + 100)
    rw [ec] at hpo
    rw [hpo, hdue]
    rw [hdue] at hm
    refine ⟨hh.keep (rel_put r ho1 hw (by omega)) (funext fun j => za_ne (by omega)) rfl rfl rfl (Nat.le_of_eq (x_cw_cong (funext fun j => za_ne (by omega)))), if_neg ?_⟩
    rw [za_ne (by omega)]
    omega
  · rw [if_neg c1, if_neg c1, if_neg c1]
    by_cases c2 : X.2.1 13 (zdg i) = w
    · rw [if_pos c2, if_pos c2, if_pos c2]
      have := x_cw_dn (U := z_sA X 19 o 3) (S := X) (c := c) (o := o) (v := 3) ho hw (by omega) (fun j => by rw [za_sA]; simp)
      refine ⟨hh.keep (rel_canc r ho1 hw) (funext fun j => za_ne (by omega)) rfl rfl rfl (by omega), if_neg ?_⟩
      rw [za_eq]
      omega
    · rw [if_neg c2, if_neg c2, if_neg c2]
      have hd : 0 ≤ X.2.1 13 (zdg i) ∧ X.2.1 13 (zdg i) < 6 := by omega
      have r1 := rel_dn r hb ho1 hw hdue hi hv hd qw
      have e19 : ∀ j, (x_pay (z_sA (x_mv (z_sA (z_sA X 19 o 2) 23 o (X.2.1 13 (zdg i))) (zdg i) w) 18 (zdg i) o) w (X.2.1 13 (zdg i)) 5).2.1 19 j = if j = o then 2 else X.2.1 19 j := fun j => by
        simp [x_mv, x_chg, x_note, x_pay, za_sA, za_sS, zv_sA, zv_sS]
      have ea : ∀ f, (x_pay (z_sA (x_mv (z_sA (z_sA X 19 o 2) 23 o (X.2.1 13 (zdg i))) (zdg i) w) 18 (zdg i) o) w (X.2.1 13 (zdg i)) 5).2.1 12 f = X.2.1 12 f - z1 (f = w) 5 + z1 (f = X.2.1 13 (zdg i)) 5 := fun f => x_pay_acc (S := z_sA (x_mv (z_sA (z_sA X 19 o 2) 23 o (X.2.1 13 (zdg i))) (zdg i) w) 18 (zdg i) o) hb hv hd (by omega)
      have s1 : (x_pay (z_sA (x_mv (z_sA (z_sA X 19 o 2) 23 o (X.2.1 13 (zdg i))) (zdg i) w) 18 (zdg i) o) w (X.2.1 13 (zdg i)) 5).1 1 = X.1 1 := rfl
      have s2 : (x_pay (z_sA (x_mv (z_sA (z_sA X 19 o 2) 23 o (X.2.1 13 (zdg i))) (zdg i) w) 18 (zdg i) o) w (X.2.1 13 (zdg i)) 5).1 2 = X.1 2 + 1 := rfl
      have s3 : (x_pay (z_sA (x_mv (z_sA (z_sA X 19 o 2) 23 o (X.2.1 13 (zdg i))) (zdg i) w) 18 (zdg i) o) w (X.2.1 13 (zdg i)) 5).1 3 = X.1 3 + 1 := rfl
      generalize x_pay (z_sA (x_mv (z_sA (z_sA X 19 o 2) 23 o (X.2.1 13 (zdg i))) (zdg i) w) 18 (zdg i) o) w (X.2.1 13 (zdg i)) 5 = Y at r1 e19 ea s1 s2 s3
      have := x_cw_dn (U := Y) (S := X) (c := c) (o := o) (v := 2) ho hw (by omega) e19
      refine ⟨⟨r1, fun f a b => ?_, by omega, by omega, by omega⟩, if_pos ?_⟩
      · have q := ha f a b
        rw [ea f, s2]
        unfold z1
        split <;> split <;> omega
      · rw [e19, if_pos rfl]
theorem rel_cd {n c : Nat} (hn : n < 150) : ∀ (k i : Nat) (X T : zS), i + k = c → zW n c X T → zW n c (x_cd X c i k) (y_cd T c i k) ∧ x_cdn X c i k = y_cdn T c i k
  | 0, _, _, _, _, h => ⟨h, rfl⟩
  | k + 1, i, X, T, hi, h => by
    have h1 := h.2.2.2.1
    have qo := h.1.ors i (by omega) (by omega)
    have hnow := h.1.now
    rw [x_cd, y_cd, x_cdn, y_cdn]
    by_cases e : X.2.1 19 i = 1 ∧ X.2.1 24 i = X.1 0
    · have e2 : T.2.1 42 i % 8 = 1 ∧ T.2.1 42 i / 65536 = T.2.1 47 0 := by omega
      obtain ⟨r, v⟩ := rel_co h hn (o := i) (by omega) e.1 e.2
      obtain ⟨g1, g2⟩ := rel_cd hn k (i + 1) (x_co X c i) (y_co T c i) (by omega) r
      rw [if_pos e, if_pos e2, if_pos e2, g2, ← v]
      refine ⟨g1, ?_⟩
      by_cases z : (x_co X c i).2.1 19 i = 2
      · rw [if_pos ⟨e, z⟩, if_pos z]
      · rw [if_neg (fun w => z w.2), if_neg z]
    · have e2 : ¬ (T.2.1 42 i % 8 = 1 ∧ T.2.1 42 i / 65536 = T.2.1 47 0) := by omega
      obtain ⟨g1, g2⟩ := rel_cd hn k (i + 1) X T (by omega) h
      rw [if_neg e, if_neg e2, if_neg e2, g2, if_neg (fun w => e w.1)]
      exact ⟨g1, rfl⟩
theorem rel_tk {n c : Nat} {X T : zS} (h : zW n c X T) (h0 : X.1 0 < 9999) : zW n c (z_sS X 0 (X.1 0 + 1)) (y_tk T) := h.keep (rel_tick h.1 h0) rfl rfl rfl rfl (Nat.le_of_eq (x_cw_cong rfl))
theorem rel_li1 {n c : Nat} {X T : zS} (h : zW n c X T) (hn : n < 150) {f : Int} (hf : 0 ≤ f ∧ f < 6) : zW n c (x_li1 X (X.1 2).toNat f) (y_li1 T f) ∧ (x_li1 X (X.1 2).toNat f).1 = X.1 := by
  have hl := h.1.lrn f hf.1 hf.2
  have hg := h.1.chg
  have hfi := h.1.firm f hf.1 hf.2
  have hfl := h.1.flag f hf.1 hf.2
  have hb := h.ab hn f hf.1 hf.2
  unfold x_li1 y_li1
  by_cases c : X.2.1 10 f = 0
  · rw [if_pos c, hl.1, hg]
    have e0 : z_sA X 28 f ((X.2.1 28 f).toNat : Int) = X := by
      rw [show (((X.2.1 28 f).toNat : Nat) : Int) = X.2.1 28 f by omega]
      exact za_id
    have r := rel_lu (f := f) (m := X.1 0 - X.2.1 11 f) hf ((X.1 2).toNat - (X.2.1 28 f).toNat) (X.2.1 28 f).toNat X T (by rw [e0]; exact h.1) (by omega) c rfl (by omega)
    have fr := x_lu_fr (f := f) (m := X.1 0 - X.2.1 11 f) ((X.1 2).toNat - (X.2.1 28 f).toNat) (X.2.1 28 f).toNat X
    exact ⟨h.keep r (funext fun j => fr.2.1 12 j (by omega) (by omega)) (fr.1 1) (fr.1 2) (fr.1 3) (Nat.le_of_eq (x_cw_cong (funext fun j => fr.2.1 19 j (by omega) (by omega)))), funext fr.1⟩
  · rw [if_neg c, y_ln_down (by omega)]
    exact ⟨h, rfl⟩
theorem rel_li {n c : Nat} (hn : n < 150) : ∀ (k i : Nat) (X T : zS), i + k = 6 → zW n c X T → zW n c (x_li X (X.1 2).toNat i k) (y_li T i k)
  | 0, _, _, _, _, h => h
  | k + 1, i, X, T, hi, h => by
    rw [x_li, y_li]
    have r := rel_li1 h hn (f := i) (by omega)
    have q := rel_li hn k (i + 1) _ _ (by omega) r.1
    rw [r.2] at q
    exact q
theorem rel_min {n c : Nat} {X T : zS} (h : zW n c X T) (hn : n < 150) (h0 : X.1 0 < 9999) : zW n c (x_min X c) (y_min T c) ∧ x_minn X c = y_minn T c := by
  have r := rel_cd hn c 0 _ _ (by omega) (rel_tk h h0)
  exact ⟨rel_li hn 6 0 _ _ (by omega) r.1, r.2⟩
theorem zW.xP {n c : Nat} {X T : zS} (h : zW n c X T) : xP X c := by
  have q := h.1.xP'
  have h1 := h.2.2.2.1
  rw [show (X.1 1).toNat = c by omega] at q
  exact q
theorem rel_ps {n c : Nat} (hn : n < 150) : ∀ (k : Nat) (X T : zS), zW n c X T → X.1 0 + k ≤ 9999 → zW n c (x_ps X c k) (y_ps T c k) ∧ x_psn X c k = y_psn T c k
  | 0, _, _, h, _ => ⟨h, rfl⟩
  | k + 1, X, T, h, h0 => by
    have r := rel_min h hn (by omega)
    have q := rel_ps hn k _ _ r.1 (by rw [x_min_now h.xP (by omega)]; omega)
    rw [x_ps, y_ps, x_psn, y_psn, r.2, q.2]
    exact ⟨q.1, rfl⟩
theorem zInv.zW {n : Nat} {S : zS} (h : zInv n S) (hg : S.1 2 < 46) : zW n (S.1 1).toNat S S := by
  have q := h.1.cw12
  have ho := h.1.ordr
  exact ⟨h.1, h.2.1, h.2.2.1, by omega, by omega⟩
theorem q_pass {n c : Nat} {S U : zS} (h : zW n c S S) (hn : n < 150) {m : Nat} (hm : 1 ≤ m ∧ m ≤ 100) (h0 : S.1 0 + m ≤ 9999) (eU : U = y_ps S c m) : ∃ V, z_FnW mL_pass [zR 0, zI (m : Int)] U (zI (y_psn S c m)) V ∧ zInv n V := by
  have eC : zcl U S := by
    rw [eU]
    exact zcl_ps m S zcl.rf
  have hU : zW n c U S := h.keep (h.1.cls eC) (eC.2 12 (by omega) (by omega) (by omega)) (eC.1 1 (by omega)) (eC.1 2 (by omega)) (eC.1 3 (by omega)) (Nat.le_of_eq (x_cw_cong (eC.2 19 (by omega) (by omega) (by omega))))
  have e0 : U.1 0 = S.1 0 := eC.1 0 (by omega)
  obtain ⟨r, v⟩ := rel_ps hn m U S hU (by omega)
  have hw := r.2.2.2.2
  have hh := r.2.2.1
  have e : o_pass U c m = (zI? (y_psn S c m), x_ps U c m) := by
    unfold o_pass
    rw [Int.toNat_natCast, v]
    exact (if_neg (by omega)).trans (if_neg (by omega))
  refine ⟨x_ps U c m, w_ok (w_pass (c_pass hU.xP (fun a1 a2 a3 => by rw [Int.toNat_natCast]; omega)) (z_shk e)) e, ?_, r.2.1, hh, by omega⟩
  rw [← eU] at r
  exact r.1.law (zlw_ps m U zlw.rf)
