/-! ===== the simulation: serverAnew ===== -/
theorem sim_serverAnew : st_serverAnew zInv := by
  intro n S a hn h ha
  have hw := w_serverAnew (o := o_serverAnew S (S.1 3).toNat a) (c_serverAnew (by have := h.hisr; omega) (by have := h.his572 hn; omega))
  by_cases e0 : ¬ (0 ≤ a ∧ a < 200)
  · have e : o_serverAnew S (S.1 3).toNat a = (.error xI, S) := by unfold o_serverAnew; exact if_pos e0
    exact sim_err (k := 1) h (hw (z_she e (by decide +kernel))) e (by decide +kernel) (by decide) (t_serverAnew) (by unfold p_server; exact if_pos (show ¬ (0 ≤ a ∧ a < 200) by omega))
  · skip
    have hs := h.serv a (by omega) (by omega)
    have hr := h.repl a (by omega) (by omega)
    have e : o_serverAnew S (S.1 3).toNat a = (zI? (x_rep S a 0 (S.1 3).toNat (-1)), S) := by unfold o_serverAnew; exact (if_neg e0).trans (rfl)
    have r := h.up
    exact sim_ok (S2 := z_sS (z_sL (S) (x_rep S a 0 (S.1 3).toNat (-1))) 5 0) (hw (z_shk e)) e (t_serverAnew) (by unfold p_server; exact (if_neg (show ¬ (¬ (0 ≤ a ∧ a < 200)) by omega)).trans (Prod.ext (show S.2.1 42 a = _ by rw [x_rep_z, hr]; omega) rfl)) rfl rfl ⟨r.now, r.nowr, r.ord, r.ordr, r.chg, r.chgr, r.hold, r.gone, r.down, r.lag, r.acc, r.lrn, r.serv, r.secr, r.quar, r.sile, r.call, r.last, r.lastn, r.held, r.cat, r.to6, r.ords, r.ordv, r.ordw, r.ordd, r.uniq, (fun f k x y z w => by have q := r.tab f k x y z w; (repeat (first | rw [za_ne (k' := 30 + f.toNat) (by omega)] at q | rw [za_sS] at q | rw [za_sL] at q)); (repeat (first | rw [za_ne (k' := 30 + f.toNat) (by omega)] | rw [za_sS] | rw [za_sL])); exact q), r.repl, r.hisr, r.phi, r.stay, r.awo⟩
