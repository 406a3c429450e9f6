/-! ===== the simulation: what is only asked ===== -/
theorem z_b_iff {p q : Prop} [Decidable p] [Decidable q] (h : p ↔ q) : z_b p = z_b q := by
  unfold z_b
  by_cases c : p
  · rw [if_pos c, if_pos (h.1 c)]
  · rw [if_neg c, if_neg (fun x => c (h.2 x))]
theorem num_eq {n : Nat} {S : zS} (h : zInv n S) {k w : Int} (hk : 0 ≤ k ∧ k < 200) : (if w = 0 then S.2.1 40 (k / 10) else if w = 1 then z_b (S.1 6 - S.2.1 44 k < 100) else if w = 2 then z_b (S.1 6 - S.2.1 45 k < 50) else if w = 3 then z_b (S.1 6 - S.2.1 46 k ≤ 30) else y_wf S k (S.1 1).toNat) =
    (if w = 0 then S.2.1 8 (k / 10) else if w = 1 then z_b (S.1 0 ≤ S.2.1 15 k) else if w = 2 then z_b (S.1 0 ≤ S.2.1 16 k) else if w = 3 then z_b (S.1 0 ≤ S.2.1 17 k) else z_on (x_wf S k (S.1 1).toNat)) := by
  have q0 := h.hold (k / 10) (by omega) (by omega)
  have q1 := h.quar k hk.1 hk.2
  have q2 := h.sile k hk.1 hk.2
  have q3 := h.call k hk.1 hk.2
  have q5 := h.now
  have q6 := h.nowr
  rw [h.wf' k, q0.1, z_b_iff (p := S.1 0 ≤ S.2.1 15 k) (q := S.1 6 - S.2.1 44 k < 100) (by omega), z_b_iff (p := S.1 0 ≤ S.2.1 16 k) (q := S.1 6 - S.2.1 45 k < 50) (by omega), z_b_iff (p := S.1 0 ≤ S.2.1 17 k) (q := S.1 6 - S.2.1 46 k ≤ 30) (by omega)]
theorem sim_number : st_number zInv := by
  intro n S a b hn h ha hb
  have ho := h.ordr
  have ho2 := h.ord
  have hw := w_number (o := o_number S (S.1 1).toNat a b) (c_number (by omega) (by omega))
  by_cases e0 : ¬ (0 ≤ a ∧ a < 200)
  · have e : o_number S (S.1 1).toNat a b = (.error xI, S) := by unfold o_number; exact if_pos e0
    exact sim_err (k := 1) h (hw (z_she e (by decide +kernel))) e (by decide +kernel) (by decide) (t_number (c := (S.1 1).toNat) (show S.1 7 = _ by omega) (by omega) h.yM') (by unfold p_number; exact if_pos (show ¬ (0 ≤ a ∧ a < 200) by omega))
  · skip
    by_cases e1 : ¬ (0 ≤ b ∧ b < 5)
    · have e : o_number S (S.1 1).toNat a b = (.error xA, S) := by unfold o_number; exact (if_neg e0).trans (if_pos e1)
      exact sim_err (k := 2) h (hw (z_she e (by decide +kernel))) e (by decide +kernel) (by decide) (t_number (c := (S.1 1).toNat) (show S.1 7 = _ by omega) (by omega) h.yM') (by unfold p_number; exact (if_neg (show ¬ (¬ (0 ≤ a ∧ a < 200)) by omega)).trans (if_pos (show ¬ (0 ≤ b ∧ b < 5) by omega)))
    · skip
      have e : o_number S (S.1 1).toNat a b = (zI? (if b = 0 then S.2.1 8 (a / 10) else if b = 1 then z_b (S.1 0 ≤ S.2.1 15 a) else if b = 2 then z_b (S.1 0 ≤ S.2.1 16 a) else if b = 3 then z_b (S.1 0 ≤ S.2.1 17 a) else z_on (x_wf S a (S.1 1).toNat)), S) := by unfold o_number; exact (if_neg e0).trans ((if_neg e1).trans (rfl))
      have r := h.up
      exact sim_ok (S2 := z_sS (z_sL (S) (if b = 0 then S.2.1 8 (a / 10) else if b = 1 then z_b (S.1 0 ≤ S.2.1 15 a) else if b = 2 then z_b (S.1 0 ≤ S.2.1 16 a) else if b = 3 then z_b (S.1 0 ≤ S.2.1 17 a) else z_on (x_wf S a (S.1 1).toNat))) 5 0) (hw (z_shk e)) e (t_number (c := (S.1 1).toNat) (show S.1 7 = _ by omega) (by omega) h.yM') (by unfold p_number; exact (if_neg (show ¬ (¬ (0 ≤ a ∧ a < 200)) by omega)).trans ((if_neg (show ¬ (¬ (0 ≤ b ∧ b < 5)) by omega)).trans (Prod.ext ((congrArg (fun z => if b = 0 then S.2.1 40 (a / 10) else if b = 1 then z_b (S.1 6 - S.2.1 44 a < 100) else if b = 2 then z_b (S.1 6 - S.2.1 45 a < 50) else if b = 3 then z_b (S.1 6 - S.2.1 46 a ≤ 30) else z) (y_wf_cong (T := S) (T' := z_sS (z_sL S (if b = 0 then S.2.1 8 (a / 10) else if b = 1 then z_b (S.1 0 ≤ S.2.1 15 a) else if b = 2 then z_b (S.1 0 ≤ S.2.1 16 a) else if b = 3 then z_b (S.1 0 ≤ S.2.1 17 a) else z_on (x_wf S a (S.1 1).toNat))) 5 0) (n := a) rfl rfl (S.1 1).toNat)).trans (num_eq h (k := a) (w := b) (by omega))) rfl))) rfl rfl ⟨r.now, r.nowr, r.ord, r.ordr, r.chg, r.chgr, r.hold, r.gone, r.down, r.lag, r.acc, r.lrn, r.serv, r.secr, r.quar, r.sile, r.call, r.last, r.lastn, r.held, r.cat, r.to6, r.ords, r.ordv, r.ordw, r.ordd, r.uniq, (fun f k x y z w => by have q := r.tab f k x y z w; (repeat (first | rw [za_ne (k' := 30 + f.toNat) (by omega)] at q | rw [za_sS] at q | rw [za_sL] at q)); (repeat (first | rw [za_ne (k' := 30 + f.toNat) (by omega)] | rw [za_sS] | rw [za_sL])); exact q), r.repl, r.hisr, r.phi, r.stay, r.awo⟩
theorem sim_of : st_of zInv := by
  intro n S a b hn h ha hb
  have ho := h.ordr
  have ho2 := h.ord
  have hw := w_of (o := o_of S a b) (c_of (by omega))
  by_cases e0 : ¬ (0 ≤ a ∧ a < S.1 1)
  · have e : o_of S a b = (.error xI, S) := by unfold o_of; exact if_pos e0
    exact sim_err (k := 1) h (hw (z_she e (by decide +kernel))) e (by decide +kernel) (by decide) (t_of (show 0 ≤ S.1 7 ∧ S.1 7 ≤ 60 by omega)) (by unfold p_of; exact if_pos (show ¬ (0 ≤ a ∧ a < S.1 7) by omega))
  · skip
    obtain ⟨v1, v2, v3, v4, v5, v6⟩ := h.ords a (by omega) (by omega)
    by_cases e1 : ¬ (0 ≤ b ∧ b < 6)
    · have e : o_of S a b = (.error xA, S) := by unfold o_of; exact (if_neg e0).trans (if_pos e1)
      exact sim_err (k := 2) h (hw (z_she e (by decide +kernel))) e (by decide +kernel) (by decide) (t_of (show 0 ≤ S.1 7 ∧ S.1 7 ≤ 60 by omega)) (by unfold p_of; exact (if_neg (show ¬ (¬ (0 ≤ a ∧ a < S.1 7)) by omega)).trans (if_pos (show ¬ (0 ≤ b ∧ b < 6) by omega)))
    · skip
      have e : o_of S a b = (zI? (if b = 0 then S.2.1 19 a else if b = 1 then S.2.1 20 a else if b = 2 then S.2.1 21 a else if b = 3 then S.2.1 22 a else if b = 4 then S.2.1 23 a else S.2.1 24 a), S) := by unfold o_of; exact (if_neg e0).trans ((if_neg e1).trans (rfl))
      have r := h.up
      exact sim_ok (S2 := z_sS (z_sL (S) (if b = 0 then S.2.1 19 a else if b = 1 then S.2.1 20 a else if b = 2 then S.2.1 21 a else if b = 3 then S.2.1 22 a else if b = 4 then S.2.1 23 a else S.2.1 24 a)) 5 0) (hw (z_shk e)) e (t_of (show 0 ≤ S.1 7 ∧ S.1 7 ≤ 60 by omega)) (by unfold p_of; exact (if_neg (show ¬ (¬ (0 ≤ a ∧ a < S.1 7)) by omega)).trans ((if_neg (show ¬ (¬ (0 ≤ b ∧ b < 6)) by omega)).trans (Prod.ext (by rw [v1, v2, v3, v4, v5, v6]; rfl) rfl))) rfl rfl ⟨r.now, r.nowr, r.ord, r.ordr, r.chg, r.chgr, r.hold, r.gone, r.down, r.lag, r.acc, r.lrn, r.serv, r.secr, r.quar, r.sile, r.call, r.last, r.lastn, r.held, r.cat, r.to6, r.ords, r.ordv, r.ordw, r.ordd, r.uniq, (fun f k x y z w => by have q := r.tab f k x y z w; (repeat (first | rw [za_ne (k' := 30 + f.toNat) (by omega)] at q | rw [za_sS] at q | rw [za_sL] at q)); (repeat (first | rw [za_ne (k' := 30 + f.toNat) (by omega)] | rw [za_sS] | rw [za_sL])); exact q), r.repl, r.hisr, r.phi, r.stay, r.awo⟩
theorem sim_room : st_room zInv := by
  intro n S a hn h ha
  have ho := h.ordr
  have ho2 := h.ord
  have hnow := h.now
  have hcw := h.cwa' a
  have hw := w_room (o := o_room S (S.1 1).toNat a) (c_room (by omega) (by omega))
  by_cases e0 : ¬ (0 ≤ a ∧ a ≤ 10999)
  · have e : o_room S (S.1 1).toNat a = (.error xA, S) := by unfold o_room; exact if_pos e0
    exact sim_err (k := 1) h (hw (z_she e (by decide +kernel))) e (by decide +kernel) (by decide) (t_room (c := (S.1 1).toNat) (show S.1 7 = _ by omega) (by omega)) (by unfold p_room; exact if_pos e0)
  · by_cases e1 : ¬ a % 100 < 20 ∨ a ≤ S.1 0
    · have e : o_room S (S.1 1).toNat a = (zI? 0, S) := by unfold o_room; exact (if_neg e0).trans (if_pos e1)
      have r := h.up
      exact sim_ok (S2 := z_sS (z_sL S 0) 5 0) (hw (z_shk e)) e (t_room (c := (S.1 1).toNat) (show S.1 7 = _ by omega) (by omega)) (by unfold p_room; exact (if_neg e0).trans (if_pos (show ¬ a % 100 < 20 ∨ a ≤ S.1 6 by omega))) rfl rfl ⟨r.now, r.nowr, r.ord, r.ordr, r.chg, r.chgr, r.hold, r.gone, r.down, r.lag, r.acc, r.lrn, r.serv, r.secr, r.quar, r.sile, r.call, r.last, r.lastn, r.held, r.cat, r.to6, r.ords, r.ordv, r.ordw, r.ordd, r.uniq, (fun f k x y z w => by have q := r.tab f k x y z w; (repeat (first | rw [za_ne (k' := 30 + f.toNat) (by omega)] at q | rw [za_sS] at q | rw [za_sL] at q)); (repeat (first | rw [za_ne (k' := 30 + f.toNat) (by omega)] | rw [za_sS] | rw [za_sL])); exact q), r.repl, r.hisr, r.phi, r.stay, r.awo⟩
    · have e : o_room S (S.1 1).toNat a = (zI? (3 - x_cwa S a (S.1 1).toNat), S) := by unfold o_room; exact (if_neg e0).trans (if_neg e1)
      have r := h.up
      exact sim_ok (S2 := z_sS (z_sL S (3 - x_cwa S a (S.1 1).toNat)) 5 0) (hw (z_shk e)) e (t_room (c := (S.1 1).toNat) (show S.1 7 = _ by omega) (by omega)) (by unfold p_room; exact (if_neg e0).trans ((if_neg (show ¬ (¬ a % 100 < 20 ∨ a ≤ S.1 6) by omega)).trans (Prod.ext (show 3 - (y_cwa S a (S.1 1).toNat : Int) = 3 - (x_cwa S a (S.1 1).toNat : Int) by omega) rfl))) rfl rfl ⟨r.now, r.nowr, r.ord, r.ordr, r.chg, r.chgr, r.hold, r.gone, r.down, r.lag, r.acc, r.lrn, r.serv, r.secr, r.quar, r.sile, r.call, r.last, r.lastn, r.held, r.cat, r.to6, r.ords, r.ordv, r.ordw, r.ordd, r.uniq, (fun f k x y z w => by have q := r.tab f k x y z w; (repeat (first | rw [za_ne (k' := 30 + f.toNat) (by omega)] at q | rw [za_sS] at q | rw [za_sL] at q)); (repeat (first | rw [za_ne (k' := 30 + f.toNat) (by omega)] | rw [za_sS] | rw [za_sL])); exact q), r.repl, r.hisr, r.phi, r.stay, r.awo⟩
theorem sim_minute : st_minute zInv := by
  intro n S hn h
  have r := h.up.thr 0
  have e : S.1 0 = S.1 6 := h.now
  have c := c_minute (S := S)
  refine ⟨S.1 0, z_sS S 5 0, c, ?_, r⟩
  rw [e]
  exact t_minute
theorem y_kb_cong {T T' : zS} {f n : Int} (h1 : T'.2.1 40 = T.2.1 40) (h2 : T'.2.1 56 = T.2.1 56) (h3 : T'.2.1 57 = T.2.1 57) (h4 : T'.2.1 58 = T.2.1 58) : y_kb T' f n = y_kb T f n := by
  unfold y_kb
  rw [h1, h4, y_last_cong (S := T) (T := T') (fun j => by rw [h2]) (fun j => by rw [h3])]
theorem sim_known : st_known zInv := by
  intro n S a b hn h ha hb
  have hw := w_known (o := o_known S a b) (c_known)
  by_cases e0 : ¬ ((0 ≤ a ∧ a < 6) ∧ (0 ≤ b ∧ b < 200))
  · have e : o_known S a b = (.error xI, S) := by unfold o_known; exact if_pos e0
    exact sim_err (k := 1) h (hw (z_she e (by decide +kernel))) e (by decide +kernel) (by decide) (t_known2 h.yC'.1) (by unfold p_known; exact if_pos (show ¬ ((0 ≤ a ∧ a < 6) ∧ (0 ≤ b ∧ b < 200)) by omega))
  · skip
    have hkb := h.kb' (f := a) (k := b) (by omega) (by omega)
    have e : o_known S a b = (zI? (x_pbt S a b), S) := by unfold o_known; exact (if_neg e0).trans (rfl)
    have r := h.up
    exact sim_ok (S2 := z_sS (z_sL (S) (x_pbt S a b)) 5 0) (hw (z_shk e)) e (t_known2 h.yC'.1) (by unfold p_known; exact (if_neg (show ¬ (¬ ((0 ≤ a ∧ a < 6) ∧ (0 ≤ b ∧ b < 200))) by omega)).trans (Prod.ext (by rw [← hkb]; exact y_kb_cong rfl rfl rfl rfl) rfl)) rfl rfl ⟨r.now, r.nowr, r.ord, r.ordr, r.chg, r.chgr, r.hold, r.gone, r.down, r.lag, r.acc, r.lrn, r.serv, r.secr, r.quar, r.sile, r.call, r.last, r.lastn, r.held, r.cat, r.to6, r.ords, r.ordv, r.ordw, r.ordd, r.uniq, (fun f k x y z w => by have q := r.tab f k x y z w; (repeat (first | rw [za_ne (k' := 30 + f.toNat) (by omega)] at q | rw [za_sS] at q | rw [za_sL] at q)); (repeat (first | rw [za_ne (k' := 30 + f.toNat) (by omega)] | rw [za_sS] | rw [za_sL])); exact q), r.repl, r.hisr, r.phi, r.stay, r.awo⟩
theorem au_eq {n : Nat} {S T T' : zS} (h : zRel n S T) (h1 : T'.2.1 40 = T.2.1 40) (h2 : T'.2.1 56 = T.2.1 56) (h3 : T'.2.1 57 = T.2.1 57) (h4 : T'.2.1 58 = T.2.1 58) (h5 : T'.2.1 42 = T.2.1 42) {f : Int} (hf : 0 ≤ f ∧ f < 6) : ∀ i : Nat, i ≤ 200 → y_au T' f i = x_au S f i
  | 0, _ => rfl
  | i + 1, hi => by
    have hs := h.serv i (by omega) (by omega)
    have hkb := h.kb' (f := f) (k := i) hf (by omega)
    rw [y_au, au_eq h h1 h2 h3 h4 h5 hf i (by omega), y_kb_cong h1 h2 h3 h4, hkb, h5, ← hs.1]
    unfold x_au
    rw [z_ct]
    simp
theorem sim_audit : st_audit zInv := by
  intro n S a hn h ha
  have hw := w_audit (o := o_audit S a) (c_audit)
  by_cases e0 : ¬ (0 ≤ a ∧ a < 6)
  · have e : o_audit S a = (.error xI, S) := by unfold o_audit; exact if_pos e0
    exact sim_err (k := 1) h (hw (z_she e (by decide +kernel))) e (by decide +kernel) (by decide) (t_audit h.yC'.1) (by unfold p_audit; exact if_pos (show ¬ (0 ≤ a ∧ a < 6) by omega))
  · skip
    have e : o_audit S a = (zI? (x_au S a 200), S) := by unfold o_audit; exact (if_neg e0).trans (rfl)
    have r := h.up
    exact sim_ok (S2 := z_sS (z_sL (S) (x_au S a 200)) 5 0) (hw (z_shk e)) e (t_audit h.yC'.1) (by unfold p_audit; exact (if_neg (show ¬ (¬ (0 ≤ a ∧ a < 6)) by omega)).trans (Prod.ext (congrArg (fun x : Nat => (x : Int)) (au_eq (T' := z_sS (z_sL S (x_au S a 200)) 5 0) h rfl rfl rfl rfl rfl (by omega) 200 (by omega))) rfl)) rfl rfl ⟨r.now, r.nowr, r.ord, r.ordr, r.chg, r.chgr, r.hold, r.gone, r.down, r.lag, r.acc, r.lrn, r.serv, r.secr, r.quar, r.sile, r.call, r.last, r.lastn, r.held, r.cat, r.to6, r.ords, r.ordv, r.ordw, r.ordd, r.uniq, (fun f k x y z w => by have q := r.tab f k x y z w; (repeat (first | rw [za_ne (k' := 30 + f.toNat) (by omega)] at q | rw [za_sS] at q | rw [za_sL] at q)); (repeat (first | rw [za_ne (k' := 30 + f.toNat) (by omega)] | rw [za_sS] | rw [za_sL])); exact q), r.repl, r.hisr, r.phi, r.stay, r.awo⟩
