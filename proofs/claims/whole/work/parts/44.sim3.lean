/-! ===== the simulation: setDown, firm, cancel, give ===== -/
theorem sim_setDown : st_setDown zInv := by
  intro n S a b hn h ha hb
  have hw := w_setDown (o := o_setDown S a b) (c_setDown hb (fun f x y => (h.down f x y).2))
  by_cases e0 : ¬ (0 ≤ a ∧ a < 6)
  · have e : o_setDown S a b = (.error xI, S) := by unfold o_setDown; exact if_pos e0
    exact ⟨1, 0, S, z_sS S 5 1, w_err (hw (z_she e (by decide +kernel)) (fun z q => by rw [e] at q; cases q)) e (by decide +kernel), t_get (t_setDown hb (fun f x y => by have := h.down f x y; rw [← this.1]; exact this.2)) (by unfold p_setDown; exact if_pos e0), rfl, fun q => absurd q (by decide), h.up.thr 1, .inl rfl⟩
  · have hd := h.down a (by omega) (by omega)
    have e : o_setDown S a b = (zI? (S.2.1 10 a), z_sA S 10 a b) := by unfold o_setDown; exact if_neg e0
    have r := (rel_setDown h (a := a) (b := b) hb).up
    exact ⟨0, S.2.1 10 a, z_sL (z_sA S 10 a b) (S.2.1 10 a), z_sA (z_sS (z_sL (z_sA S 10 a b) (S.2.1 10 a)) 5 0) 60 a b, w_okz (hw (z_shk e) (fun z q => by rw [e] at q; cases q; exact hd.2)) e, t_get (t_setDown hb (fun f x y => by have := h.down f x y; show S.2.1 60 f = 0 ∨ S.2.1 60 f = 1; rw [← this.1]; exact this.2)) (by unfold p_setDown; exact (if_neg e0).trans (Prod.ext (show S.2.1 60 a = S.2.1 10 a by omega) rfl)), rfl, fun _ => rfl, ⟨r.now, r.nowr, r.ord, r.ordr, r.chg, r.chgr, r.hold, r.gone, r.down, r.lag, r.acc, r.lrn, r.serv, r.secr, r.quar, r.sile, r.call, r.last, r.lastn, r.held, r.cat, r.to6, r.ords, r.ordv, r.ordw, r.ordd, r.uniq, (fun f k x y z w => by have q := r.tab f k x y z w; (repeat (first | rw [za_ne (k' := 30 + f.toNat) (by omega)] at q | rw [za_sS] at q | rw [za_sL] at q)); (repeat (first | rw [za_ne (k' := 30 + f.toNat) (by omega)] | rw [za_sS] | rw [za_sL])); exact q), r.repl, r.hisr, r.phi, r.stay, r.awo⟩, hd.2⟩
theorem y_bo_cong {T T' : zS} {f : Int} {c : Nat} (h1 : T'.2.1 40 = T.2.1 40) : y_bo T' f c = y_bo T f c := by
  unfold y_bo
  rw [h1]
theorem y_sb_cong {T T' : zS} {f : Int} {c : Nat} (h1 : T'.2.1 42 = T.2.1 42) : y_sb T' f c = y_sb T f c := by
  unfold y_sb
  rw [h1]
theorem zRel.bo' {n : Nat} {S T : zS} (h : zRel n S T) (f : Int) : y_bo T f 20 = x_cb S f 20 := by
  unfold y_bo x_cb
  refine z_ct_cong (fun k hk => ?_)
  have := h.hold k (by omega) (by omega)
  rw [this.1]
theorem zRel.sb' {n : Nat} {S T : zS} (h : zRel n S T) (f : Int) : y_sb T f 200 = x_sb S f 200 := by
  unfold y_sb x_sb
  refine z_ct_cong (fun k hk => ?_)
  have := h.serv k (by omega) (by omega)
  rw [this.1]
theorem done_can {S : zS} {o : Int} (hw : S.2.1 19 o = 1) (k : Nat) : zdone ((z_sA S 19 o 3).2.1 19) k = zdone (S.2.1 19) k := by
  unfold zdone
  by_cases hk : (k : Int) = o
  · simp [za_sA, za_sS, za_sL, zv_sA, zv_sS, zv_sL, hk, hw]
  · simp [za_sA, za_sS, za_sL, zv_sA, zv_sS, zv_sL, hk]
theorem back_can {S : zS} {o : Int} (hw : S.2.1 19 o = 1) (k : Nat) : zback ((z_sA S 19 o 3).2.1 19) k = zback (S.2.1 19) k := by
  unfold zback
  by_cases hk : (k : Int) = o
  · simp [za_sA, za_sS, za_sL, zv_sA, zv_sS, zv_sL, hk, hw]
  · simp [za_sA, za_sS, za_sL, zv_sA, zv_sS, zv_sL, hk]
theorem rel_cancel {n : Nat} {S T : zS} (h : zRel n S T) {o : Int} (ho : 0 ≤ o ∧ o < S.1 1) (hw : S.2.1 19 o = 1) : zRel n (z_sA S 19 o 3) (z_sA T 48 o 3) := by
  refine ⟨h.now, h.nowr, h.ord, h.ordr, h.chg, h.chgr, h.hold, h.gone, h.down, h.lag, h.acc, h.lrn, h.serv, h.secr, h.quar, h.sile, h.call, h.last, h.lastn, h.held, h.cat, h.to6, ?_, h.ordv, ?_, ?_, ?_, (fun f k x y z w => by have q := h.tab f k x y z w; (repeat (first | rw [za_ne (k' := 30 + f.toNat) (by omega)] at q | rw [za_sS] at q | rw [za_sL] at q)); (repeat (first | rw [za_ne (k' := 30 + f.toNat) (by omega)] | rw [za_sS] | rw [za_sL])); exact q), h.repl, ?_, ?_, h.stay, ?_⟩
  · intro k x y
    have q := h.ords k x y
    by_cases hk : k = o
    · simp [za_sA, za_sS, za_sL, zv_sA, zv_sS, zv_sL, hk]
      simp [hk] at q
      exact q.2
    · simp [za_sA, za_sS, za_sL, zv_sA, zv_sS, zv_sL, hk]
      exact q
  · intro k x y z
    by_cases hk : k = o
    · simp [za_sA, za_sS, za_sL, zv_sA, zv_sS, zv_sL, hk] at z
    · simp [za_sA, za_sS, za_sL, zv_sA, zv_sS, zv_sL, hk] at z
      exact h.ordw k x y z
  · intro k x y z
    by_cases hk : k = o
    · simp [za_sA, za_sS, za_sL, zv_sA, zv_sS, zv_sL, hk] at z
    · simp [za_sA, za_sS, za_sL, zv_sA, zv_sS, zv_sL, hk] at z
      exact h.ordd k x y z
  · intro k j a b c d e f g
    by_cases hk : k = o
    · simp [za_sA, za_sS, za_sL, zv_sA, zv_sS, zv_sL, hk] at e
    · by_cases hj : j = o
      · simp [za_sA, za_sS, za_sL, zv_sA, zv_sS, zv_sL, hj] at f
      · simp [za_sA, za_sS, za_sL, zv_sA, zv_sS, zv_sL, hk] at e
        simp [za_sA, za_sS, za_sL, zv_sA, zv_sS, zv_sL, hj] at f
        exact h.uniq k j a b c d e f g
  · rw [show z_ct (zdone ((z_sA S 19 o 3).2.1 19)) ((z_sA S 19 o 3).1 1).toNat = z_ct (zdone (S.2.1 19)) (S.1 1).toNat from z_ct_cong (fun k hk => done_can hw k)]
    exact h.hisr
  · rw [show z_ct (zdone ((z_sA S 19 o 3).2.1 19)) ((z_sA S 19 o 3).1 1).toNat = z_ct (zdone (S.2.1 19)) (S.1 1).toNat from z_ct_cong (fun k hk => done_can hw k), show z_ct (zback ((z_sA S 19 o 3).2.1 19)) ((z_sA S 19 o 3).1 1).toNat = z_ct (zback (S.2.1 19)) (S.1 1).toNat from z_ct_cong (fun k hk => back_can hw k)]
    exact h.phi
  · intro k a b
    obtain ⟨p, q1, q2, q3⟩ := h.awo k a b
    exact ⟨p, q1, (done_can hw p).trans q2, q3⟩
theorem sim_cancel : st_cancel zInv := by
  intro n S a hn h ha
  have ho := h.ordr
  have ho2 := h.ord
  have hnow := h.now
  have hw := w_cancel (o := o_cancel S (S.1 1).toNat a) (c_cancel (by omega) (by omega) h.nowr (fun o x y => (h.ordv o x (by omega)).2.2))
  have tt : ∀ {U : zS}, U.1 7 = S.1 7 → U.1 6 = S.1 6 → U.2.1 53 = S.2.1 53 → z_Ret mX7_cancel [zR 7, zI a] U (p_cancel U (S.1 1).toNat a) := fun {U} u7 u6 u53 => t_cancel (by rw [u7]; omega) (by omega) (by rw [u6, ← h.now]; exact h.nowr) (fun o x y => by rw [u53, ← (h.ords o x (by omega)).2.2.2.2.2]; exact (h.ordv o x (by omega)).2.2)
  by_cases e0 : ¬ (0 ≤ a ∧ a < S.1 1)
  · have e : o_cancel S (S.1 1).toNat a = (.error xI, S) := by unfold o_cancel; exact if_pos e0
    exact sim_err (k := 1) h (hw (z_she e (by decide +kernel))) e (by decide +kernel) (by decide) (tt rfl rfl rfl) (by unfold p_cancel; exact if_pos (show ¬ (0 ≤ a ∧ a < S.1 7) by omega))
  · obtain ⟨v1, v2, v3, v4, v5, v6⟩ := h.ords a (by omega) (by omega)
    by_cases e1 : ¬ S.2.1 19 a = 1 ∨ S.2.1 24 a - S.1 0 < 10
    · have e : o_cancel S (S.1 1).toNat a = (.error xS, S) := by unfold o_cancel; exact (if_neg e0).trans (if_pos e1)
      exact sim_err (k := 2) h (hw (z_she e (by decide +kernel))) e (by decide +kernel) (by decide) (tt rfl rfl rfl) (by unfold p_cancel; exact (if_neg (show ¬ ¬ (0 ≤ a ∧ a < S.1 7) by omega)).trans (if_pos (show ¬ S.2.1 48 a = 1 ∨ S.2.1 53 a - S.1 6 < 10 by omega)))
    · have e : o_cancel S (S.1 1).toNat a = (zI? (x_cw (z_sA S 19 a 3) (S.1 1).toNat), z_sA S 19 a 3) := by unfold o_cancel; exact (if_neg e0).trans (if_neg e1)
      have r := (rel_cancel h (o := a) (by omega) (by omega)).up
      have hcw := r.cw'
      exact sim_ok (S2 := z_sA (z_sS (z_sL (z_sA S 19 a 3) (x_cw (z_sA S 19 a 3) (S.1 1).toNat)) 5 0) 48 a 3) (hw (z_shk e)) e (tt rfl rfl rfl) (by unfold p_cancel; exact (if_neg (show ¬ ¬ (0 ≤ a ∧ a < S.1 7) by omega)).trans ((if_neg (show ¬ (¬ S.2.1 48 a = 1 ∨ S.2.1 53 a - S.1 6 < 10) by omega)).trans (Prod.ext (congrArg (fun x : Nat => (x : Int)) hcw.symm) rfl))) rfl rfl ⟨r.now, r.nowr, r.ord, r.ordr, r.chg, r.chgr, r.hold, r.gone, r.down, r.lag, r.acc, r.lrn, r.serv, r.secr, r.quar, r.sile, r.call, r.last, r.lastn, r.held, r.cat, r.to6, r.ords, r.ordv, r.ordw, r.ordd, r.uniq, (fun f k x y z w => by have q := r.tab f k x y z w; (repeat (first | rw [za_ne (k' := 30 + f.toNat) (by omega)] at q | rw [za_sS] at q | rw [za_sL] at q)); (repeat (first | rw [za_ne (k' := 30 + f.toNat) (by omega)] | rw [za_sS] | rw [za_sL])); exact q), r.repl, r.hisr, r.phi, r.stay, r.awo⟩
