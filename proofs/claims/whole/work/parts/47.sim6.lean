/-! ===== the simulation: a row more in the history; assign ===== -/
theorem zrep_app {a b d : Int → Int} {m : Int} : ∀ (k i : Nat) (s : Int), zrep a b d m i (k + 1) s = if b ((i + k : Nat) : Int) = (if a ((i + k : Nat) : Int) = 0 then m else zrep a b d m i k s) then d ((i + k : Nat) : Int) else zrep a b d m i k s
  | 0, i, s => by rw [zrep, zrep, zrep]; rfl
  | k + 1, i, s => by
    rw [zrep, zrep_app k (i + 1), show zrep a b d m i (k + 1) s = zrep a b d m (i + 1) k (if b i = (if a i = 0 then m else s) then d i else s) from rfl, show i + 1 + k = i + (k + 1) by omega]
theorem zrep_cong {a b d a' b' d' : Int → Int} {m : Int} : ∀ (k i : Nat) (s : Int), (∀ j : Nat, i ≤ j → j < i + k → a' j = a j ∧ b' j = b j ∧ d' j = d j) → zrep a' b' d' m i k s = zrep a b d m i k s
  | 0, _, _, _ => rfl
  | k + 1, i, s, h => by
    have q := h i (by omega) (by omega)
    rw [zrep, zrep, q.1, q.2.1, q.2.2, zrep_cong k (i + 1) _ (fun j x y => h j (by omega) (by omega))]
theorem zrep_note {a b d a' b' d' : Int → Int} {c : Nat} {x y z m : Int} (ha : ∀ j, a' j = if j = (c : Int) then x else a j) (hb : ∀ j, b' j = if j = (c : Int) then y else b j) (hd : ∀ j, d' j = if j = (c : Int) then z else d j) :
    zrep a' b' d' m 0 (c + 1) (-1) = if y = (if x = 0 then m else zrep a b d m 0 c (-1)) then z else zrep a b d m 0 c (-1) := by
  rw [zrep_app c 0 (-1), zrep_cong (a := a) (b := b) (d := d) c 0 (-1) (fun j _ h => by
    have hne : ¬ (j : Int) = c := by omega
    rw [ha, hb, hd, if_neg hne, if_neg hne, if_neg hne]
    exact ⟨rfl, rfl, rfl⟩), Nat.zero_add, ha, hb, hd, if_pos rfl, if_pos rfl, if_pos rfl]
theorem note_rep {S U : zS} {bb nn xx m : Int} (h3 : 0 ≤ S.1 3) (u36 : U.2.1 36 = S.2.1 36) (u37 : U.2.1 37 = S.2.1 37) (u38 : U.2.1 38 = S.2.1 38) (u3 : U.1 3 = S.1 3) : zrep ((x_note U bb nn xx).2.1 36) ((x_note U bb nn xx).2.1 37) ((x_note U bb nn xx).2.1 38) m 0 ((x_note U bb nn xx).1 3).toNat (-1) =
    if nn = (if bb = 0 then m else zrep (S.2.1 36) (S.2.1 37) (S.2.1 38) m 0 (S.1 3).toNat (-1)) then xx else zrep (S.2.1 36) (S.2.1 37) (S.2.1 38) m 0 (S.1 3).toNat (-1) := by
  have e : ((x_note U bb nn xx).1 3).toNat = (S.1 3).toNat + 1 := by
    show (U.1 3 + 1).toNat = _
    omega
  rw [e]
  refine zrep_note (c := (S.1 3).toNat) (x := bb) (y := nn) (z := xx) (fun j => ?_) (fun j => ?_) (fun j => ?_)
  · rw [show (((S.1 3).toNat : Nat) : Int) = U.1 3 by omega, ← u36]
    simp [x_note, za_sA, za_sS, za_sL, zv_sA, zv_sS, zv_sL]
  · rw [show (((S.1 3).toNat : Nat) : Int) = U.1 3 by omega, ← u37]
    simp [x_note, za_sA, za_sS, za_sL, zv_sA, zv_sS, zv_sL]
  · rw [show (((S.1 3).toNat : Nat) : Int) = U.1 3 by omega, ← u38]
    simp [x_note, za_sA, za_sS, za_sL, zv_sA, zv_sS, zv_sL]
theorem away_asg {S : zS} {a t : Int} (ha : 0 ≤ a ∧ a < 200) (h13 : S.2.1 13 a = -1) (k : Nat) (hk : k < 200) : zaway ((x_note (z_sA (z_sA S 13 a (S.2.1 8 (a / 10))) 14 a t) 0 a (S.2.1 8 (a / 10))).2.1 13) ((x_note (z_sA (z_sA S 13 a (S.2.1 8 (a / 10))) 14 a t) 0 a (S.2.1 8 (a / 10))).2.1 8) k = zaway (S.2.1 13) (S.2.1 8) k := by
  unfold zaway
  by_cases e : (k : Int) = a
  · simp [x_note, za_sA, za_sS, za_sL, zv_sA, zv_sS, zv_sL, e, h13]
  · simp [x_note, za_sA, za_sS, za_sL, zv_sA, zv_sS, zv_sL, e]
theorem rel_assign {n : Nat} {S T : zS} (h : zRel n S T) {a t : Int} (ha : 0 ≤ a ∧ a < 200) (h13 : S.2.1 13 a = -1) (h8 : ¬ S.2.1 8 (a / 10) = -1) : zRel (n + 1) (x_note (z_sA (z_sA S 13 a (S.2.1 8 (a / 10))) 14 a t) 0 a (S.2.1 8 (a / 10))) (z_sA (z_sA (z_sA T 42 a (T.2.1 40 (a / 10))) 47 a (-1)) 43 a t) := by
  refine ⟨h.now, h.nowr, h.ord, h.ordr, h.chg, h.chgr, h.hold, h.gone, h.down, h.lag, h.acc, h.lrn, ?_, ?_, h.quar, h.sile, h.call, ?_, ?_, ?_, h.cat, h.to6, h.ords, h.ordv, ?_, h.ordd, h.uniq, (fun f k x y z w => by have q := h.tab f k x y z w; (try unfold x_note at q); (try unfold x_note); (repeat (first | rw [za_ne (k' := 30 + f.toNat) (by omega)] at q | rw [za_sS] at q | rw [za_sL] at q)); (repeat (first | rw [za_ne (k' := 30 + f.toNat) (by omega)] | rw [za_sS] | rw [za_sL])); exact q), ?_, ?_, ?_, h.stay, ?_⟩
  · intro k x y
    have q := h.serv k x y
    have q2 := h.hold (a / 10) (by omega) (by omega)
    by_cases hk : k = a
    · simp [x_note, za_sA, za_sS, za_sL, zv_sA, zv_sS, zv_sL, hk]
      omega
    · simp [x_note, za_sA, za_sS, za_sL, zv_sA, zv_sS, zv_sL, hk]
      exact q
  · intro k x y
    have q := h.secr k x y
    by_cases hk : k = a
    · simp [x_note, za_sA, za_sS, za_sL, zv_sA, zv_sS, zv_sL, hk]
    · simp [x_note, za_sA, za_sS, za_sL, zv_sA, zv_sS, zv_sL, hk]
      exact q
  · intro k x y z
    by_cases hk : k = a
    · have q := h.lastn a ha.1 ha.2 h13
      simp [x_note, za_sA, za_sS, za_sL, zv_sA, zv_sS, zv_sL, hk]
      exact q
    · simp [x_note, za_sA, za_sS, za_sL, zv_sA, zv_sS, zv_sL, hk] at z
      have q := h.last k x y z
      simp [x_note, za_sA, za_sS, za_sL, zv_sA, zv_sS, zv_sL, hk]
      exact q
  · intro k x y z
    by_cases hk : k = a
    · simp [x_note, za_sA, za_sS, za_sL, zv_sA, zv_sS, zv_sL, hk] at z
      exact absurd z h8
    · simp [x_note, za_sA, za_sS, za_sL, zv_sA, zv_sS, zv_sL, hk] at z
      exact h.lastn k x y z
  · intro k x y z
    by_cases hk : k = a
    · subst hk
      exact h8
    · simp [x_note, za_sA, za_sS, za_sL, zv_sA, zv_sS, zv_sL, hk] at z
      exact h.held k x y z
  · intro o x y z
    have q := h.ordw o x y z
    by_cases hk : S.2.1 21 o = a
    · exact absurd (hk ▸ h13) q
    · intro q9
      exact q (by simp [x_note, za_sA, za_sS, za_sL, zv_sA, zv_sS, zv_sL, hk] at q9; exact q9)
  · intro m x y
    rw [note_rep (S := S) (U := z_sA (z_sA S 13 a (S.2.1 8 (a / 10))) 14 a t) h.hisr.1 rfl rfl rfl rfl, h.repl m x y]
    by_cases hk : m = a
    · simp [x_note, za_sA, za_sS, za_sL, zv_sA, zv_sS, zv_sL, hk]
    · have hk2 : ¬ a = m := fun q => hk q.symm
      simp [x_note, za_sA, za_sS, za_sL, zv_sA, zv_sS, zv_sL, hk, hk2]
  · exact ⟨show 0 ≤ S.1 3 + 1 by have := h.hisr; omega, show S.1 3 + 1 ≤ ((n + 1 : Nat) : Int) + z_ct (zdone (S.2.1 19)) (S.1 1).toNat by have := h.hisr; omega⟩
  · rw [show z_ct (zaway ((x_note (z_sA (z_sA S 13 a (S.2.1 8 (a / 10))) 14 a t) 0 a (S.2.1 8 (a / 10))).2.1 13) ((x_note (z_sA (z_sA S 13 a (S.2.1 8 (a / 10))) 14 a t) 0 a (S.2.1 8 (a / 10))).2.1 8)) 200 = z_ct (zaway (S.2.1 13) (S.2.1 8)) 200 from z_ct_cong (fun k hk => away_asg ha h13 k hk)]
    exact h.phi
  · intro k b c
    exact h.awo k b ((away_asg (t := t) ha h13 k b).symm.trans c)
theorem sim_assign : st_assign zInv := by
  intro n S a b hn h ha hb
  have hw := w_assign (o := o_assign S a b) (c_assign (h.his572 hn))
  have tt : ∀ {U : zS}, yM U → z_Ret mX7_assign [zR 7, zI a, zI b] U (p_assign U a b) := fun {U} u => t_assign u
  by_cases e0 : ¬ (0 ≤ a ∧ a < 200)
  · have e : o_assign S a b = (.error xI, S) := by unfold o_assign; exact if_pos e0
    exact sim_err (k := 1) h (hw (z_she e (by decide +kernel))) e (by decide +kernel) (by decide) (tt h.yM') (by unfold p_assign; exact if_pos e0)
  · have q1 := h.hold (a / 10) (by omega) (by omega)
    have q2 := h.serv a (by omega) (by omega)
    have q3 := h.quar a (by omega) (by omega)
    have q4 := h.now
    have q5 := h.nowr
    by_cases e1 : ¬ (0 ≤ b ∧ b < 100)
    · have e : o_assign S a b = (.error xA, S) := by unfold o_assign; exact (if_neg e0).trans (if_pos e1)
      exact sim_err (k := 2) h (hw (z_she e (by decide +kernel))) e (by decide +kernel) (by decide) (tt h.yM') (by unfold p_assign; exact (if_neg e0).trans (if_pos e1))
    · by_cases e2 : S.2.1 8 (a / 10) = -1 ∨ ¬ S.2.1 13 a = -1 ∨ S.1 0 ≤ S.2.1 15 a
      · have e : o_assign S a b = (.error xS, S) := by unfold o_assign; exact (if_neg e0).trans ((if_neg e1).trans (if_pos e2))
        exact sim_err (k := 3) h (hw (z_she e (by decide +kernel))) e (by decide +kernel) (by decide) (tt h.yM') (by unfold p_assign; exact (if_neg e0).trans ((if_neg e1).trans (if_pos (show S.2.1 40 (a / 10) = -1 ∨ ¬ S.2.1 42 a = -1 ∨ S.1 6 - S.2.1 44 a < 100 by omega))))
      · have e : o_assign S a b = (zI? (S.2.1 8 (a / 10)), x_note (z_sA (z_sA S 13 a (S.2.1 8 (a / 10))) 14 a b) 0 a (S.2.1 8 (a / 10))) := by unfold o_assign; exact (if_neg e0).trans ((if_neg e1).trans (if_neg e2))
        have r := rel_assign h (a := a) (t := b) (by omega) (by omega) (by omega)
        exact sim_ok (S2 := z_sA (z_sA (z_sA (z_sS (z_sL (x_note (z_sA (z_sA S 13 a (S.2.1 8 (a / 10))) 14 a b) 0 a (S.2.1 8 (a / 10))) (S.2.1 8 (a / 10))) 5 0) 42 a (S.2.1 40 (a / 10))) 47 a (-1)) 43 a b) (hw (z_shk e)) e (tt h.yM') (by unfold p_assign; exact (if_neg e0).trans ((if_neg e1).trans ((if_neg (show ¬ (S.2.1 40 (a / 10) = -1 ∨ ¬ S.2.1 42 a = -1 ∨ S.1 6 - S.2.1 44 a < 100) by omega)).trans (Prod.ext (show S.2.1 40 (a / 10) = S.2.1 8 (a / 10) by omega) rfl)))) rfl rfl ⟨r.now, r.nowr, r.ord, r.ordr, r.chg, r.chgr, r.hold, r.gone, r.down, r.lag, r.acc, r.lrn, r.serv, r.secr, r.quar, r.sile, r.call, r.last, r.lastn, r.held, r.cat, r.to6, r.ords, r.ordv, r.ordw, r.ordd, r.uniq, (fun f k x y z w => by have q := r.tab f k x y z w; (try unfold x_note at q); (try unfold x_note); (repeat (first | rw [za_ne (k' := 30 + f.toNat) (by omega)] at q | rw [za_sS] at q | rw [za_sL] at q)); (repeat (first | rw [za_ne (k' := 30 + f.toNat) (by omega)] | rw [za_sS] | rw [za_sL])); exact q), r.repl, r.hisr, r.phi, r.stay, r.awo⟩
