/-! ===== the simulation: firm, give ===== -/
theorem sim_firm : st_firm zInv := by
  intro n S a b hn h ha hb
  have hc := h.chg540
  have hc0 := h.chgr
  have hchg := h.chg
  have hw := w_firm (o := o_firm S a b) (c_firm (by omega) (fun f x y => ⟨(h.lrn f x y).2, (h.gone f x y).2, (h.down f x y).2⟩))
  have tt : ∀ {U : zS}, U.1 8 = S.1 8 → U.2.1 58 = S.2.1 58 → U.2.1 41 = S.2.1 41 → U.2.1 60 = S.2.1 60 → z_Ret mX7_firm [zR 7, zI a, zI b] U (p_firm U a b) := fun {U} u8 u58 u41 u60 => t_firm (by rw [u8]; omega) (fun f x y => by
    rw [u8, u58, u41, u60, ← (h.lrn f x y).1, ← (h.gone f x y).1, ← (h.down f x y).1, ← hchg]
    exact ⟨(h.lrn f x y).2, (h.gone f x y).2, (h.down f x y).2⟩)
  by_cases e0 : ¬ (0 ≤ a ∧ a < 6)
  · have e : o_firm S a b = (.error xI, S) := by unfold o_firm; exact if_pos e0
    exact sim_err (k := 1) h (hw (z_she e (by decide +kernel))) e (by decide +kernel) (by decide) (tt rfl rfl rfl rfl) (by unfold p_firm; exact if_pos e0)
  · by_cases e1 : ¬ (0 ≤ b ∧ b < 7)
    · have e : o_firm S a b = (.error xA, S) := by unfold o_firm; exact (if_neg e0).trans (if_pos e1)
      exact sim_err (k := 2) h (hw (z_she e (by decide +kernel))) e (by decide +kernel) (by decide) (tt rfl rfl rfl rfl) (by unfold p_firm; exact (if_neg e0).trans (if_pos e1))
    · have e : o_firm S a b = (zI? (if b = 0 then S.2.1 9 a else if b = 1 then (x_cb S a 20 : Int) else if b = 2 then (x_sb S a 200 : Int) else if b = 3 then S.2.1 10 a else if b = 4 then S.2.1 11 a else if b = 5 then S.2.1 12 a else S.1 2 - S.2.1 28 a), S) := by unfold o_firm; exact (if_neg e0).trans (if_neg e1)
      have r := h.up
      have f1 := (h.gone a (by omega) (by omega)).1
      have f2 := (h.down a (by omega) (by omega)).1
      have f3 := (h.lag a (by omega) (by omega)).1
      have f4 := h.acc a (by omega) (by omega)
      have f5 := (h.lrn a (by omega) (by omega)).1
      have key : ∀ U : zS, U.2.1 40 = S.2.1 40 → U.2.1 42 = S.2.1 42 → (if b = 0 then S.2.1 41 a else if b = 1 then (y_bo U a 20 : Int) else if b = 2 then (y_sb U a 200 : Int) else if b = 3 then S.2.1 60 a else if b = 4 then S.2.1 59 a else if b = 5 then S.2.1 61 a else S.1 8 - S.2.1 58 a) = (if b = 0 then S.2.1 9 a else if b = 1 then (x_cb S a 20 : Int) else if b = 2 then (x_sb S a 200 : Int) else if b = 3 then S.2.1 10 a else if b = 4 then S.2.1 11 a else if b = 5 then S.2.1 12 a else S.1 2 - S.2.1 28 a) := fun U u40 u42 => by
        rw [y_bo_cong (T := S) u40, y_sb_cong (T := S) u42, h.bo' a, h.sb' a, f1, f2, f3, f4, f5, hchg]
      exact sim_ok (S2 := z_sS (z_sL S (if b = 0 then S.2.1 9 a else if b = 1 then (x_cb S a 20 : Int) else if b = 2 then (x_sb S a 200 : Int) else if b = 3 then S.2.1 10 a else if b = 4 then S.2.1 11 a else if b = 5 then S.2.1 12 a else S.1 2 - S.2.1 28 a)) 5 0) (hw (z_shk e)) e (tt rfl rfl rfl rfl) (by unfold p_firm; exact (if_neg e0).trans ((if_neg e1).trans (Prod.ext (key (z_sS (z_sL S (if b = 0 then S.2.1 9 a else if b = 1 then (x_cb S a 20 : Int) else if b = 2 then (x_sb S a 200 : Int) else if b = 3 then S.2.1 10 a else if b = 4 then S.2.1 11 a else if b = 5 then S.2.1 12 a else S.1 2 - S.2.1 28 a)) 5 0) rfl rfl) rfl))) rfl rfl ⟨r.now, r.nowr, r.ord, r.ordr, r.chg, r.chgr, r.hold, r.gone, r.down, r.lag, r.acc, r.lrn, r.serv, r.secr, r.quar, r.sile, r.call, r.last, r.lastn, r.held, r.cat, r.to6, r.ords, r.ordv, r.ordw, r.ordd, r.uniq, (fun f k x y z w => by have q := r.tab f k x y z w; (repeat (first | rw [za_ne (k' := 30 + f.toNat) (by omega)] at q | rw [za_sS] at q | rw [za_sL] at q)); (repeat (first | rw [za_ne (k' := 30 + f.toNat) (by omega)] | rw [za_sS] | rw [za_sL])); exact q), r.repl, r.hisr, r.phi, r.stay, r.awo⟩
theorem away_give {S : zS} {b f : Int} (hb : 0 ≤ b ∧ b < 20) (hheld : ∀ n : Int, 0 ≤ n → n < 200 → ¬ S.2.1 13 n = -1 → ¬ S.2.1 8 (n / 10) = -1) (h8 : S.2.1 8 b = -1) (k : Nat) (hk : k < 200) : zaway (S.2.1 13) ((z_sA S 8 b f).2.1 8) k = zaway (S.2.1 13) (S.2.1 8) k := by
  unfold zaway
  by_cases e : S.2.1 13 k = -1
  · simp [e]
  · have hh := hheld k (by omega) (by omega) e
    have hne : ¬ (k : Int) / 10 = b := fun q => hh (q ▸ h8)
    simp [za_sA, za_sS, za_sL, zv_sA, zv_sS, zv_sL, hne]
theorem rel_give {n : Nat} {S T : zS} (h : zRel n S T) {b f : Int} (hb : 0 ≤ b ∧ b < 20) (hf : 0 ≤ f ∧ f < 6) (h8 : S.2.1 8 b = -1) : zRel n (z_sA S 8 b f) (z_sA T 40 b f) := by
  refine ⟨h.now, h.nowr, h.ord, h.ordr, h.chg, h.chgr, ?_, h.gone, h.down, h.lag, h.acc, h.lrn, h.serv, h.secr, h.quar, h.sile, h.call, h.last, h.lastn, ?_, h.cat, h.to6, h.ords, h.ordv, h.ordw, h.ordd, h.uniq, (fun f k x y z w => by have q := h.tab f k x y z w; (repeat (first | rw [za_ne (k' := 30 + f.toNat) (by omega)] at q | rw [za_sS] at q | rw [za_sL] at q)); (repeat (first | rw [za_ne (k' := 30 + f.toNat) (by omega)] | rw [za_sS] | rw [za_sL])); exact q), h.repl, h.hisr, ?_, h.stay, ?_⟩
  · intro k x y
    have q := h.hold k x y
    by_cases hk : k = b
    · simp [za_sA, za_sS, za_sL, zv_sA, zv_sS, zv_sL, hk]
      omega
    · simp [za_sA, za_sS, za_sL, zv_sA, zv_sS, zv_sL, hk]
      exact q
  · intro k x y z
    have q := h.held k x y z
    by_cases hk : k / 10 = b
    · simp [za_sA, za_sS, za_sL, zv_sA, zv_sS, zv_sL, hk]
      omega
    · simp [za_sA, za_sS, za_sL, zv_sA, zv_sS, zv_sL, hk]
      exact q
  · rw [show z_ct (zaway ((z_sA S 8 b f).2.1 13) ((z_sA S 8 b f).2.1 8)) 200 = z_ct (zaway (S.2.1 13) (S.2.1 8)) 200 from z_ct_cong (fun k hk => away_give hb h.held h8 k hk)]
    exact h.phi
  · intro k a c
    exact h.awo k a ((away_give (f := f) hb h.held h8 k a).symm.trans c)
theorem sim_give : st_give zInv := by
  intro n S a b hn h ha hb
  have hw := w_give (o := o_give S a b) c_give
  have tt : ∀ {U : zS}, U.2.1 41 = S.2.1 41 → z_Ret mX7_give [zR 7, zI a, zI b] U (p_give U a b) := fun {U} u => t_give (fun f x y => by rw [u]; exact h.gone' f x y)
  by_cases e0 : ¬ ((0 ≤ a ∧ a < 20) ∧ (0 ≤ b ∧ b < 6))
  · have e : o_give S a b = (.error xI, S) := by unfold o_give; exact if_pos e0
    exact sim_err (k := 1) h (hw (z_she e (by decide +kernel))) e (by decide +kernel) (by decide) (tt rfl) (by unfold p_give; exact if_pos e0)
  · have v1 := (h.hold a (by omega) (by omega)).1
    have v2 := (h.gone b (by omega) (by omega)).1
    by_cases e1 : ¬ S.2.1 8 a = -1 ∨ ¬ S.2.1 9 b = 0
    · have e : o_give S a b = (.error xS, S) := by unfold o_give; exact (if_neg e0).trans (if_pos e1)
      exact sim_err (k := 2) h (hw (z_she e (by decide +kernel))) e (by decide +kernel) (by decide) (tt rfl) (by unfold p_give; exact (if_neg e0).trans (if_pos (show ¬ S.2.1 40 a = -1 ∨ ¬ S.2.1 41 b = 0 by omega)))
    · have e : o_give S a b = (zI? (x_cb (z_sA S 8 a b) b 20), z_sA S 8 a b) := by unfold o_give; exact (if_neg e0).trans (if_neg e1)
      have r := (rel_give h (b := a) (f := b) (by omega) (by omega) (by omega)).up
      have key := r.bo' b
      exact sim_ok (S2 := z_sA (z_sS (z_sL (z_sA S 8 a b) (x_cb (z_sA S 8 a b) b 20)) 5 0) 40 a b) (hw (z_shk e)) e (tt rfl) (by unfold p_give; exact (if_neg e0).trans ((if_neg (show ¬ (¬ S.2.1 40 a = -1 ∨ ¬ S.2.1 41 b = 0) by omega)).trans (Prod.ext (congrArg (fun x : Nat => (x : Int)) key) rfl))) rfl rfl ⟨r.now, r.nowr, r.ord, r.ordr, r.chg, r.chgr, r.hold, r.gone, r.down, r.lag, r.acc, r.lrn, r.serv, r.secr, r.quar, r.sile, r.call, r.last, r.lastn, r.held, r.cat, r.to6, r.ords, r.ordv, r.ordw, r.ordd, r.uniq, (fun f k x y z w => by have q := r.tab f k x y z w; (repeat (first | rw [za_ne (k' := 30 + f.toNat) (by omega)] at q | rw [za_sS] at q | rw [za_sL] at q)); (repeat (first | rw [za_ne (k' := 30 + f.toNat) (by omega)] | rw [za_sS] | rw [za_sL])); exact q), r.repl, r.hisr, r.phi, r.stay, r.awo⟩
