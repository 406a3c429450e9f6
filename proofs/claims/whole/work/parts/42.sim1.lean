/-! ===== the simulation: simple calls ===== -/
theorem za_sL (S : zS) (v : Int) : (z_sL S v).2.1 = S.2.1 := rfl
theorem zv_sL (S : zS) (v : Int) : (z_sL S v).1 = S.1 := rfl
theorem rel_swap {n : Nat} {S T : zS} (h : zRel n S T) {a b : Int} : zRel n (z_sA (z_sA S 14 a b) 16 a (S.1 0 + 49)) (z_sA (z_sA T 43 a b) 45 a (T.1 6)) := by
  refine ⟨h.now, h.nowr, h.ord, h.ordr, h.chg, h.chgr, h.hold, h.gone, h.down, h.lag, h.acc, h.lrn, h.serv, ?_, h.quar, ?_, h.call, h.last, h.lastn, h.held, h.cat, h.to6, h.ords, h.ordv, h.ordw, h.ordd, h.uniq, (fun f k x y z w => by have q := h.tab f k x y z w; (repeat (first | rw [za_ne (k' := 30 + f.toNat) (by omega)] at q | rw [za_sS] at q | rw [za_sL] at q)); (repeat (first | rw [za_ne (k' := 30 + f.toNat) (by omega)] | rw [za_sS] | rw [za_sL])); exact q), h.repl, h.hisr, h.phi, h.stay, h.awo⟩
  · intro k x y
    have q := h.secr k x y
    by_cases hk : k = a
    · simp [za_sA, za_sS, za_sL, zv_sA, zv_sS, zv_sL, hk]
    · simp [za_sA, za_sS, za_sL, zv_sA, zv_sS, zv_sL, hk, q]
  · intro k x y
    have q := h.sile k x y
    have q2 := h.now
    have q3 := h.nowr
    by_cases hk : k = a
    · simp [za_sA, za_sS, za_sL, zv_sA, zv_sS, zv_sL, hk]
      omega
    · simp [za_sA, za_sS, za_sL, zv_sA, zv_sS, zv_sL, hk]
      exact q
theorem rel_emergency {n : Nat} {S T : zS} (h : zRel n S T) {a : Int} : zRel n (z_sA S 17 a (S.1 0 + 30)) (z_sA T 46 a (T.1 6)) := by
  refine ⟨h.now, h.nowr, h.ord, h.ordr, h.chg, h.chgr, h.hold, h.gone, h.down, h.lag, h.acc, h.lrn, h.serv, h.secr, h.quar, h.sile, ?_, h.last, h.lastn, h.held, h.cat, h.to6, h.ords, h.ordv, h.ordw, h.ordd, h.uniq, (fun f k x y z w => by have q := h.tab f k x y z w; (repeat (first | rw [za_ne (k' := 30 + f.toNat) (by omega)] at q | rw [za_sS] at q | rw [za_sL] at q)); (repeat (first | rw [za_ne (k' := 30 + f.toNat) (by omega)] | rw [za_sS] | rw [za_sL])); exact q), h.repl, h.hisr, h.phi, h.stay, h.awo⟩
  · intro k x y
    have q := h.call k x y
    have q2 := h.now
    have q3 := h.nowr
    by_cases hk : k = a
    · simp [za_sA, za_sS, za_sL, zv_sA, zv_sS, zv_sL, hk]
      omega
    · simp [za_sA, za_sS, za_sL, zv_sA, zv_sS, zv_sL, hk]
      exact q
theorem rel_setLag {n : Nat} {S T : zS} (h : zRel n S T) {a b : Int} (hb : 0 ≤ b ∧ b ≤ 50) : zRel n (z_sA S 11 a b) (z_sA T 59 a b) := by
  refine ⟨h.now, h.nowr, h.ord, h.ordr, h.chg, h.chgr, h.hold, h.gone, h.down, ?_, h.acc, h.lrn, h.serv, h.secr, h.quar, h.sile, h.call, h.last, h.lastn, h.held, h.cat, h.to6, h.ords, h.ordv, h.ordw, h.ordd, h.uniq, (fun f k x y z w => by have q := h.tab f k x y z w; (repeat (first | rw [za_ne (k' := 30 + f.toNat) (by omega)] at q | rw [za_sS] at q | rw [za_sL] at q)); (repeat (first | rw [za_ne (k' := 30 + f.toNat) (by omega)] | rw [za_sS] | rw [za_sL])); exact q), h.repl, h.hisr, h.phi, h.stay, h.awo⟩
  · intro k x y
    have q := h.lag k x y
    by_cases hk : k = a
    · simp [za_sA, za_sS, za_sL, zv_sA, zv_sS, zv_sL, hk]
      omega
    · simp [za_sA, za_sS, za_sL, zv_sA, zv_sS, zv_sL, hk]
      exact q
theorem rel_setDown {n : Nat} {S T : zS} (h : zRel n S T) {a b : Int} (hb : b = 0 ∨ b = 1) : zRel n (z_sA S 10 a b) (z_sA T 60 a b) := by
  refine ⟨h.now, h.nowr, h.ord, h.ordr, h.chg, h.chgr, h.hold, h.gone, ?_, h.lag, h.acc, h.lrn, h.serv, h.secr, h.quar, h.sile, h.call, h.last, h.lastn, h.held, h.cat, h.to6, h.ords, h.ordv, h.ordw, h.ordd, h.uniq, (fun f k x y z w => by have q := h.tab f k x y z w; (repeat (first | rw [za_ne (k' := 30 + f.toNat) (by omega)] at q | rw [za_sS] at q | rw [za_sL] at q)); (repeat (first | rw [za_ne (k' := 30 + f.toNat) (by omega)] | rw [za_sS] | rw [za_sL])); exact q), h.repl, h.hisr, h.phi, h.stay, h.awo⟩
  · intro k x y
    have q := h.down k x y
    by_cases hk : k = a
    · simp [za_sA, za_sS, za_sL, zv_sA, zv_sS, zv_sL, hk]
      omega
    · simp [za_sA, za_sS, za_sL, zv_sA, zv_sS, zv_sL, hk]
      exact q
theorem sim_swap : st_swap zInv := by
  intro n S a b hn h ha hb
  have hw := w_swap (o := o_swap S a b) (c_swap h.nowr)
  by_cases e0 : ¬ (0 ≤ a ∧ a < 200)
  · have e : o_swap S a b = (.error xI, S) := by unfold o_swap; exact if_pos e0
    exact sim_err (k := 1) h (hw (z_she e (by decide +kernel))) e (by decide +kernel) (by decide) (t_swap) (by unfold p_swap; exact if_pos (show ¬ (0 ≤ a ∧ a < 200) by omega))
  · skip
    have hs := h.serv a (by omega) (by omega)
    have hc := h.secr a (by omega) (by omega)
    by_cases e1 : ¬ (0 ≤ b ∧ b < 100)
    · have e : o_swap S a b = (.error xA, S) := by unfold o_swap; exact (if_neg e0).trans (if_pos e1)
      exact sim_err (k := 2) h (hw (z_she e (by decide +kernel))) e (by decide +kernel) (by decide) (t_swap) (by unfold p_swap; exact (if_neg (show ¬ (¬ (0 ≤ a ∧ a < 200)) by omega)).trans (if_pos (show ¬ (0 ≤ b ∧ b < 100) by omega)))
    · skip
      by_cases e2 : S.2.1 13 a = -1
      · have e : o_swap S a b = (.error xS, S) := by unfold o_swap; exact (if_neg e0).trans ((if_neg e1).trans (if_pos e2))
        exact sim_err (k := 3) h (hw (z_she e (by decide +kernel))) e (by decide +kernel) (by decide) (t_swap) (by unfold p_swap; exact (if_neg (show ¬ (¬ (0 ≤ a ∧ a < 200)) by omega)).trans ((if_neg (show ¬ (¬ (0 ≤ b ∧ b < 100)) by omega)).trans (if_pos (show S.2.1 42 a = -1 by omega))))
      · skip
        have e : o_swap S a b = (zI? (S.2.1 14 a), z_sA (z_sA S 14 a b) 16 a (S.1 0 + 49)) := by unfold o_swap; exact (if_neg e0).trans ((if_neg e1).trans ((if_neg e2).trans (rfl)))
        have r := (rel_swap h (a := a) (b := b)).up
        exact sim_ok (S2 := z_sA (z_sA (z_sS (z_sL (z_sA (z_sA S 14 a b) 16 a (S.1 0 + 49)) (S.2.1 14 a)) 5 0) 43 a b) 45 a (S.1 6)) (hw (z_shk e)) e (t_swap) (by unfold p_swap; exact (if_neg (show ¬ (¬ (0 ≤ a ∧ a < 200)) by omega)).trans ((if_neg (show ¬ (¬ (0 ≤ b ∧ b < 100)) by omega)).trans ((if_neg (show ¬ (S.2.1 42 a = -1) by omega)).trans (Prod.ext (show S.2.1 43 a = S.2.1 14 a by omega) rfl)))) rfl rfl ⟨r.now, r.nowr, r.ord, r.ordr, r.chg, r.chgr, r.hold, r.gone, r.down, r.lag, r.acc, r.lrn, r.serv, r.secr, r.quar, r.sile, r.call, r.last, r.lastn, r.held, r.cat, r.to6, r.ords, r.ordv, r.ordw, r.ordd, r.uniq, (fun f k x y z w => by have q := r.tab f k x y z w; (repeat (first | rw [za_ne (k' := 30 + f.toNat) (by omega)] at q | rw [za_sS] at q | rw [za_sL] at q)); (repeat (first | rw [za_ne (k' := 30 + f.toNat) (by omega)] | rw [za_sS] | rw [za_sL])); exact q), r.repl, r.hisr, r.phi, r.stay, r.awo⟩
theorem sim_emergency : st_emergency zInv := by
  intro n S a hn h ha
  have hw := w_emergency (o := o_emergency S a) (c_emergency h.nowr)
  by_cases e0 : ¬ (0 ≤ a ∧ a < 200)
  · have e : o_emergency S a = (.error xI, S) := by unfold o_emergency; exact if_pos e0
    exact sim_err (k := 1) h (hw (z_she e (by decide +kernel))) e (by decide +kernel) (by decide) (t_emergency (by have := h.nowr; have := h.now; show 0 ≤ S.1 6 ∧ S.1 6 ≤ 9999; omega)) (by unfold p_emergency; exact if_pos (show ¬ (0 ≤ a ∧ a < 200) by omega))
  · skip
    have hs := h.serv a (by omega) (by omega)
    have hc := h.now
    by_cases e1 : S.2.1 13 a = -1
    · have e : o_emergency S a = (.error xS, S) := by unfold o_emergency; exact (if_neg e0).trans (if_pos e1)
      exact sim_err (k := 2) h (hw (z_she e (by decide +kernel))) e (by decide +kernel) (by decide) (t_emergency (by have := h.nowr; have := h.now; show 0 ≤ S.1 6 ∧ S.1 6 ≤ 9999; omega)) (by unfold p_emergency; exact (if_neg (show ¬ (¬ (0 ≤ a ∧ a < 200)) by omega)).trans (if_pos (show S.2.1 42 a = -1 by omega)))
    · skip
      have e : o_emergency S a = (zI? (S.1 0 + 30), z_sA S 17 a (S.1 0 + 30)) := by unfold o_emergency; exact (if_neg e0).trans ((if_neg e1).trans (rfl))
      have r := (rel_emergency h (a := a)).up
      exact sim_ok (S2 := z_sA (z_sS (z_sL (z_sA S 17 a (S.1 0 + 30)) (S.1 0 + 30)) 5 0) 46 a (S.1 6)) (hw (z_shk e)) e (t_emergency (by have := h.nowr; have := h.now; show 0 ≤ S.1 6 ∧ S.1 6 ≤ 9999; omega)) (by unfold p_emergency; exact (if_neg (show ¬ (¬ (0 ≤ a ∧ a < 200)) by omega)).trans ((if_neg (show ¬ (S.2.1 42 a = -1) by omega)).trans (Prod.ext (show S.1 6 + 30 = S.1 0 + 30 by omega) rfl))) rfl rfl ⟨r.now, r.nowr, r.ord, r.ordr, r.chg, r.chgr, r.hold, r.gone, r.down, r.lag, r.acc, r.lrn, r.serv, r.secr, r.quar, r.sile, r.call, r.last, r.lastn, r.held, r.cat, r.to6, r.ords, r.ordv, r.ordw, r.ordd, r.uniq, (fun f k x y z w => by have q := r.tab f k x y z w; (repeat (first | rw [za_ne (k' := 30 + f.toNat) (by omega)] at q | rw [za_sS] at q | rw [za_sL] at q)); (repeat (first | rw [za_ne (k' := 30 + f.toNat) (by omega)] | rw [za_sS] | rw [za_sL])); exact q), r.repl, r.hisr, r.phi, r.stay, r.awo⟩
theorem sim_setLag : st_setLag zInv := by
  intro n S a b hn h ha hb
  have hw := w_setLag (o := o_setLag S a b) (c_setLag)
  by_cases e0 : ¬ (0 ≤ a ∧ a < 6)
  · have e : o_setLag S a b = (.error xI, S) := by unfold o_setLag; exact if_pos e0
    exact sim_err (k := 1) h (hw (z_she e (by decide +kernel))) e (by decide +kernel) (by decide) (t_setLag) (by unfold p_setLag; exact if_pos (show ¬ (0 ≤ a ∧ a < 6) by omega))
  · skip
    have hs := h.lag a (by omega) (by omega)
    by_cases e1 : ¬ (0 ≤ b ∧ b ≤ 50)
    · have e : o_setLag S a b = (.error xA, S) := by unfold o_setLag; exact (if_neg e0).trans (if_pos e1)
      exact sim_err (k := 2) h (hw (z_she e (by decide +kernel))) e (by decide +kernel) (by decide) (t_setLag) (by unfold p_setLag; exact (if_neg (show ¬ (¬ (0 ≤ a ∧ a < 6)) by omega)).trans (if_pos (show ¬ (0 ≤ b ∧ b ≤ 50) by omega)))
    · skip
      have e : o_setLag S a b = (zI? (S.2.1 11 a), z_sA S 11 a b) := by unfold o_setLag; exact (if_neg e0).trans ((if_neg e1).trans (rfl))
      have r := (rel_setLag h (a := a) (b := b) (by omega)).up
      exact sim_ok (S2 := z_sA (z_sS (z_sL (z_sA S 11 a b) (S.2.1 11 a)) 5 0) 59 a b) (hw (z_shk e)) e (t_setLag) (by unfold p_setLag; exact (if_neg (show ¬ (¬ (0 ≤ a ∧ a < 6)) by omega)).trans ((if_neg (show ¬ (¬ (0 ≤ b ∧ b ≤ 50)) by omega)).trans (Prod.ext (show S.2.1 59 a = S.2.1 11 a by omega) rfl))) rfl rfl ⟨r.now, r.nowr, r.ord, r.ordr, r.chg, r.chgr, r.hold, r.gone, r.down, r.lag, r.acc, r.lrn, r.serv, r.secr, r.quar, r.sile, r.call, r.last, r.lastn, r.held, r.cat, r.to6, r.ords, r.ordv, r.ordw, r.ordd, r.uniq, (fun f k x y z w => by have q := r.tab f k x y z w; (repeat (first | rw [za_ne (k' := 30 + f.toNat) (by omega)] at q | rw [za_sS] at q | rw [za_sL] at q)); (repeat (first | rw [za_ne (k' := 30 + f.toNat) (by omega)] | rw [za_sS] | rw [za_sL])); exact q), r.repl, r.hisr, r.phi, r.stay, r.awo⟩
theorem sim_server : st_server zInv := by
  intro n S a hn h ha
  have hw := w_server (o := o_server S a) (c_server)
  by_cases e0 : ¬ (0 ≤ a ∧ a < 200)
  · have e : o_server S a = (.error xI, S) := by unfold o_server; exact if_pos e0
    exact sim_err (k := 1) h (hw (z_she e (by decide +kernel))) e (by decide +kernel) (by decide) (t_server) (by unfold p_server; exact if_pos (show ¬ (0 ≤ a ∧ a < 200) by omega))
  · skip
    have hs := h.serv a (by omega) (by omega)
    have e : o_server S a = (zI? (S.2.1 13 a), S) := by unfold o_server; exact (if_neg e0).trans (rfl)
    have r := h.up
    exact sim_ok (S2 := z_sS (z_sL (S) (S.2.1 13 a)) 5 0) (hw (z_shk e)) e (t_server) (by unfold p_server; exact (if_neg (show ¬ (¬ (0 ≤ a ∧ a < 200)) by omega)).trans (Prod.ext (show S.2.1 42 a = S.2.1 13 a by omega) rfl)) rfl rfl ⟨r.now, r.nowr, r.ord, r.ordr, r.chg, r.chgr, r.hold, r.gone, r.down, r.lag, r.acc, r.lrn, r.serv, r.secr, r.quar, r.sile, r.call, r.last, r.lastn, r.held, r.cat, r.to6, r.ords, r.ordv, r.ordw, r.ordd, r.uniq, (fun f k x y z w => by have q := r.tab f k x y z w; (repeat (first | rw [za_ne (k' := 30 + f.toNat) (by omega)] at q | rw [za_sS] at q | rw [za_sL] at q)); (repeat (first | rw [za_ne (k' := 30 + f.toNat) (by omega)] | rw [za_sS] | rw [za_sL])); exact q), r.repl, r.hisr, r.phi, r.stay, r.awo⟩
