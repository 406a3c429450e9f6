/-! ===== what the class does, call by call, in the law's rows ===== -/
theorem z_ct_up {p q : Nat → Bool} {k : Nat} : ∀ {n : Nat}, k < n → (∀ j, j < n → j ≠ k → q j = p j) → p k = false → q k = true → z_ct q n = z_ct p n + 1
  | 0, h, _, _, _ => absurd h (by omega)
  | n + 1, h, hj, h0, h1 => by
    rw [z_ct, z_ct]
    by_cases e : k = n
    · subst e
      rw [h0, h1, z_ct_cong (p := q) (q := p) (n := k) (fun j a => hj j (by omega) (by omega))]
      simp
    · rw [z_ct_up (n := n) (by omega) (fun j a b => hj j (by omega) b) h0 h1, hj n (by omega) (fun q => e q.symm)]
      omega
section
variable {S : zS}
theorem q_give_ok (h : Rel S S) {b f : Int} (hb : 0 ≤ b ∧ b < 4) (hf : 0 ≤ f ∧ f < 6) (h1 : S.2.1 7 b = -1) (h2 : S.2.1 9 f = 0) : z_FnW mL_give [zR 0, zI b, zI f] S (zI (1 + (z_ct (fun a => decide (S.2.1 7 a = f)) 4 : Int))) (z_sA S 8 b f) := by
  have hh := h.hold b hb.1 hb.2
  have e : o_give S b f = (zI? (1 + (z_ct (fun a => decide (S.2.1 7 a = f)) 4 : Int)), z_sA S 8 b f) := by
    have ec : x_cb (z_sA S 8 b f) f 20 = z_ct (fun a => decide (S.2.1 7 a = f)) 4 + 1 := by
      unfold x_cb
      rw [show (20 : Nat) = 4 + 16 from rfl, z_ct_skip 16 (fun k x y => by
        rw [za_ni (show ¬ (k : Int) = b by omega), h.holdo k (by omega) (by omega)]
        exact decide_eq_false (by omega))]
      refine z_ct_up (k := b.toNat) (by omega) (fun j x y => ?_) ?_ ?_
      · rw [za_ni (show ¬ (j : Int) = b by omega), (h.hold j (by omega) (by omega)).1]
      · rw [show ((b.toNat : Nat) : Int) = b by omega, h1]
        exact decide_eq_false (by omega)
      · rw [show ((b.toNat : Nat) : Int) = b by omega, za_eq]
        exact decide_eq_true rfl
    unfold o_give
    rw [ec, show (((z_ct (fun a => decide (S.2.1 7 a = f)) 4 + 1 : Nat) : Int)) = 1 + (z_ct (fun a => decide (S.2.1 7 a = f)) 4 : Int) by omega]
    exact (if_neg (by omega)).trans (if_neg (by omega))
  exact w_ok (w_give c_give (z_shk e)) e
theorem q_give_ex (h : Rel S S) {b f : Int} (hb : 0 ≤ b ∧ b < 4) (hf : 0 ≤ f ∧ f < 6) (h1 : ¬ (S.2.1 7 b = -1 ∧ S.2.1 9 f = 0)) : z_FnW mL_give [zR 0, zI b, zI f] S (zI (-7300)) S := by
  have hh := h.hold b hb.1 hb.2
  have e : o_give S b f = (.error xS, S) := by
    unfold o_give
    exact (if_neg (by omega)).trans (if_pos (by omega))
  exact w_er (w_give c_give (z_she e (by decide +kernel))) e (by decide +kernel)
theorem q_assign_ok (h : Rel S S) (h3 : S.1 3 < 572) {i t : Int} (hi : 0 ≤ i ∧ i < 12) (ht : 0 ≤ t ∧ t ≤ 1) (h1 : ¬ S.2.1 7 (i / 3) = -1) (h2 : S.2.1 40 i = -1) (hq : S.2.1 40 (24 + i) < S.2.1 47 0) : z_FnW mL_assign [zR 0, zI (zdg i), zI t] S (zI (S.2.1 7 (i / 3))) (x_note (z_sA (z_sA S 13 (zdg i) (S.2.1 8 (zdg i / 10))) 14 (zdg i) t) 0 (zdg i) (S.2.1 8 (zdg i / 10))) := by
  have hd := zdg_rng hi
  have hh := h.hold (i / 3) (by omega) (by omega)
  have hs := h.serv i hi.1 hi.2
  have hqq := h.quar i hi.1 hi.2
  have hn := h.now
  have e : o_assign S (zdg i) t = (zI? (S.2.1 7 (i / 3)), x_note (z_sA (z_sA S 13 (zdg i) (S.2.1 8 (zdg i / 10))) 14 (zdg i) t) 0 (zdg i) (S.2.1 8 (zdg i / 10))) := by
    unfold o_assign
    rw [hd.2.2, hh.1]
    exact (if_neg (by omega)).trans ((if_neg (by omega)).trans (if_neg (by omega)))
  exact w_ok (w_assign (c_assign ⟨h.hisr, h3⟩) (z_shk e)) e
theorem q_assign_ex (h : Rel S S) (h3 : S.1 3 < 572) {i t : Int} (hi : 0 ≤ i ∧ i < 12) (ht : 0 ≤ t ∧ t ≤ 1) (h1 : ¬ (¬ S.2.1 7 (i / 3) = -1 ∧ S.2.1 40 i = -1 ∧ S.2.1 40 (24 + i) < S.2.1 47 0)) : z_FnW mL_assign [zR 0, zI (zdg i), zI t] S (zI (-7300)) S := by
  have hd := zdg_rng hi
  have hh := h.hold (i / 3) (by omega) (by omega)
  have hs := h.serv i hi.1 hi.2
  have hqq := h.quar i hi.1 hi.2
  have hn := h.now
  have e : o_assign S (zdg i) t = (.error xS, S) := by
    unfold o_assign
    rw [hd.2.2]
    exact (if_neg (by omega)).trans ((if_neg (by omega)).trans (if_pos (by omega)))
  exact w_er (w_assign (c_assign ⟨h.hisr, h3⟩) (z_she e (by decide +kernel))) e (by decide +kernel)
theorem q_assign_ix (h : Rel S S) (h3 : S.1 3 < 572) : z_FnW mL_assign [zR 0, zI 200, zI 0] S (zI (-7100)) S := by
  have e : o_assign S 200 0 = (.error xI, S) := by
    unfold o_assign
    exact if_pos (by decide)
  exact w_er (w_assign (c_assign ⟨h.hisr, h3⟩) (z_she e (by decide +kernel))) e (by decide +kernel)
theorem q_end_ok (h : Rel S S) (h2 : S.1 2 < 600) (h3 : S.1 3 < 572) {i : Int} (hi : 0 ≤ i ∧ i < 12) (h1 : ¬ S.2.1 40 i = -1) : z_FnW mL_end [zR 0, zI (zdg i)] S (zI (S.2.1 40 i)) (x_en S (zdg i) (S.1 1).toNat) := by
  have hd := zdg_rng hi
  have hs := h.serv i hi.1 hi.2
  have ho := h.ordr
  have e : o_end S (S.1 1).toNat (zdg i) = (zI? (S.2.1 40 i), x_en S (zdg i) (S.1 1).toNat) := by
    unfold o_end
    rw [hs.1]
    exact (if_neg (by omega)).trans (if_neg (by omega))
  exact w_ok (w_end (c_end (by omega) (by omega) h.nowr ⟨h.chgr, h2⟩ ⟨h.hisr, h3⟩) (z_shk e)) e
theorem q_end_ex (h : Rel S S) (h2 : S.1 2 < 600) (h3 : S.1 3 < 572) {i : Int} (hi : 0 ≤ i ∧ i < 12) (h1 : S.2.1 40 i = -1) : z_FnW mL_end [zR 0, zI (zdg i)] S (zI (-7300)) S := by
  have hd := zdg_rng hi
  have hs := h.serv i hi.1 hi.2
  have ho := h.ordr
  have e : o_end S (S.1 1).toNat (zdg i) = (.error xS, S) := by
    unfold o_end
    exact (if_neg (by omega)).trans (if_pos (by omega))
  exact w_er (w_end (c_end (by omega) (by omega) h.nowr ⟨h.chgr, h2⟩ ⟨h.hisr, h3⟩) (z_she e (by decide +kernel))) e (by decide +kernel)
theorem q_swap_ok (h : Rel S S) {i t : Int} (hi : 0 ≤ i ∧ i < 12) (ht : 0 ≤ t ∧ t ≤ 1) (h1 : ¬ S.2.1 40 i = -1) : z_FnW mL_swap [zR 0, zI (zdg i), zI t] S (zI (S.2.1 40 (12 + i))) (z_sA (z_sA S 14 (zdg i) t) 16 (zdg i) (S.1 0 + 49)) := by
  have hd := zdg_rng hi
  have hs := h.serv i hi.1 hi.2
  have hc := h.secr i hi.1 hi.2
  have e : o_swap S (zdg i) t = (zI? (S.2.1 40 (12 + i)), z_sA (z_sA S 14 (zdg i) t) 16 (zdg i) (S.1 0 + 49)) := by
    unfold o_swap
    rw [hc.1]
    exact (if_neg (by omega)).trans ((if_neg (by omega)).trans (if_neg (by omega)))
  exact w_ok (w_swap (c_swap h.nowr) (z_shk e)) e
theorem q_swap_ex (h : Rel S S) {i t : Int} (hi : 0 ≤ i ∧ i < 12) (ht : 0 ≤ t ∧ t ≤ 1) (h1 : S.2.1 40 i = -1) : z_FnW mL_swap [zR 0, zI (zdg i), zI t] S (zI (-7300)) S := by
  have hd := zdg_rng hi
  have hs := h.serv i hi.1 hi.2
  have e : o_swap S (zdg i) t = (.error xS, S) := by
    unfold o_swap
    exact (if_neg (by omega)).trans ((if_neg (by omega)).trans (if_pos (by omega)))
  exact w_er (w_swap (c_swap h.nowr) (z_she e (by decide +kernel))) e (by decide +kernel)
theorem q_emer_ok (h : Rel S S) {i : Int} (hi : 0 ≤ i ∧ i < 12) (h1 : ¬ S.2.1 40 i = -1) : z_FnW mL_emergency [zR 0, zI (zdg i)] S (zI (S.2.1 47 0 + 30)) (z_sA S 17 (zdg i) (S.2.1 47 0 + 30)) := by
  have hd := zdg_rng hi
  have hs := h.serv i hi.1 hi.2
  have hn := h.now
  have e : o_emergency S (zdg i) = (zI? (S.2.1 47 0 + 30), z_sA S 17 (zdg i) (S.2.1 47 0 + 30)) := by
    unfold o_emergency
    rw [hn]
    exact (if_neg (by omega)).trans (if_neg (by omega))
  exact w_ok (w_emergency (c_emergency h.nowr) (z_shk e)) e
theorem q_emer_ex (h : Rel S S) {i : Int} (hi : 0 ≤ i ∧ i < 12) (h1 : S.2.1 40 i = -1) : z_FnW mL_emergency [zR 0, zI (zdg i)] S (zI (-7300)) S := by
  have hd := zdg_rng hi
  have hs := h.serv i hi.1 hi.2
  have e : o_emergency S (zdg i) = (.error xS, S) := by
    unfold o_emergency
    exact (if_neg (by omega)).trans (if_pos (by omega))
  exact w_er (w_emergency (c_emergency h.nowr) (z_she e (by decide +kernel))) e (by decide +kernel)
theorem q_setLag {f g : Int} (hf : 0 ≤ f ∧ f < 6) (hg : 0 ≤ g ∧ g ≤ 50) : z_FnW mL_setLag [zR 0, zI f, zI g] S (zI (S.2.1 11 f)) (z_sA S 11 f g) := by
  have e : o_setLag S f g = (zI? (S.2.1 11 f), z_sA S 11 f g) := by
    unfold o_setLag
    exact (if_neg (by omega)).trans (if_neg (by omega))
  exact w_ok (w_setLag c_setLag (z_shk e)) e
theorem q_setLag_x : z_FnW mL_setLag [zR 0, zI 0, zI 51] S (zI (-7200)) S := by
  have e : o_setLag S 0 51 = (.error xA, S) := by
    unfold o_setLag
    exact (if_neg (by decide)).trans (if_pos (by decide))
  exact w_er (w_setLag c_setLag (z_she e (by decide +kernel))) e (by decide +kernel)
theorem q_setDown (h : Rel S S) {f g : Int} (hf : 0 ≤ f ∧ f < 6) (hg : g = 0 ∨ g = 1) : z_FnW mL_setDown [zR 0, zI f, zI g] S (zI (S.2.1 10 f)) (z_sA S 10 f g) := by
  have hfl := (h.flag f hf.1 hf.2).2.1
  have e : o_setDown S f g = (zI? (S.2.1 10 f), z_sA S 10 f g) := by
    unfold o_setDown
    exact if_neg (by omega)
  refine w_ok (w_setDown (c_setDown hg (fun f a b => (h.flag f a b).2.1)) (z_shk e) (fun z hz => ?_)) e
  rw [e] at hz
  have hz2 : zI? z = zI? (S.2.1 10 f) := hz
  injection hz2 with h1
  injection h1 with h2
  injection h2 with h3
  rw [h3]
  exact hfl
theorem q_correct (h : Rel S S) (h2 : S.1 2 ≤ 600) {f : Int} (hf : 0 ≤ f ∧ f < 6) : z_FnW mL_correct [zR 0, zI f] S (zI (S.1 2 - S.2.1 28 f)) (x_la S f (S.2.1 28 f).toNat ((S.1 2).toNat - (S.2.1 28 f).toNat)) := by
  have hc := h.chgr
  have e : o_correct S (S.1 2).toNat f = (zI? (S.1 2 - S.2.1 28 f), x_la S f (S.2.1 28 f).toNat ((S.1 2).toNat - (S.2.1 28 f).toNat)) := by
    unfold o_correct
    exact if_neg (by omega)
  refine w_ok (w_correct (c_correct (by omega) (by omega) (fun f a b => (h.lrn f a b).2) (fun j a b => ?_)) (z_shk e)) e
  have q := h.cat j a b
  have hd := zdg_rng (i := S.2.1 44 j / 16384 % 16) (by omega)
  rw [q.2.2.2.2.1]
  exact ⟨hd.1, hd.2.1⟩
theorem q_back_ok (h : Rel S S) {b : Int} (hb : 0 ≤ b ∧ b < 4) (h1 : ¬ S.2.1 7 b = -1) (hn : ∀ i : Int, 3 * b ≤ i → i < 3 * b + 3 → S.2.1 40 i = -1 ∧ S.2.1 40 (24 + i) < S.2.1 47 0) : z_FnW mL_giveBack [zR 0, zI b] S (zI (S.2.1 7 b)) (z_sA S 8 b (-1)) := by
  have hh := h.hold b hb.1 hb.2
  have hnow := h.now
  have hnr := h.nowr
  have hf : ∀ (k j : Nat), 10 * b.toNat ≤ j → j + k = 10 * b.toNat + 10 → x_bb S j k = false := by
    intro k
    induction k with
    | zero => intro j _ _; rw [x_bb]
    | succ k ih =>
      intro j a c
      rw [x_bb, ih (j + 1) (by omega) (by omega), Bool.or_false]
      refine decide_eq_false ?_
      by_cases g : ∃ i : Int, (3 * b ≤ i ∧ i < 3 * b + 3) ∧ (j : Int) = zdg i
      · obtain ⟨i, ⟨g1, g2⟩, g3⟩ := g
        have q := hn i g1 g2
        have s1 := h.serv i (by omega) (by omega)
        have s2 := h.quar i (by omega) (by omega)
        rw [g3]
        omega
      · have q := h.oth j (by omega) (by omega) (fun i x y e => g ⟨i, by unfold zdg at e; omega, e⟩)
        omega
  have e : o_giveBack S b = (zI? (S.2.1 7 b), z_sA S 8 b (-1)) := by
    unfold o_giveBack
    rw [hf 10 (10 * b.toNat) (by omega) (by omega), hh.1]
    exact (if_neg (by omega)).trans ((if_neg (by omega)).trans (if_neg (by decide)))
  exact w_ok (w_giveBack c_giveBack (z_shk e)) e
theorem x_bb_true {j : Nat} : ∀ (k i : Nat), i ≤ j → j < i + k → (¬ S.2.1 13 j = -1 ∨ S.1 0 ≤ S.2.1 15 j) → x_bb S i k = true
  | 0, i, a, b, _ => absurd b (by omega)
  | k + 1, i, a, b, c => by
    rw [x_bb]
    by_cases e : i = j
    · subst e
      rw [decide_eq_true c, Bool.true_or]
    · rw [x_bb_true k (i + 1) (by omega) (by omega) c, Bool.or_true]
theorem q_back_ex (h : Rel S S) {b : Int} (hb : 0 ≤ b ∧ b < 4) (h1 : S.2.1 7 b = -1 ∨ ∃ i : Int, 3 * b ≤ i ∧ i < 3 * b + 3 ∧ ¬ (S.2.1 40 i = -1 ∧ S.2.1 40 (24 + i) < S.2.1 47 0)) : z_FnW mL_giveBack [zR 0, zI b] S (zI (-7300)) S := by
  have hh := h.hold b hb.1 hb.2
  have hnow := h.now
  have e : o_giveBack S b = (.error xS, S) := by
    unfold o_giveBack
    rcases h1 with h1 | ⟨i, a, c, g⟩
    · exact (if_neg (by omega)).trans (if_pos (by omega))
    · have hd := zdg_rng (i := i) (by omega)
      have s1 := h.serv i (by omega) (by omega)
      have s2 := h.quar i (by omega) (by omega)
      have hx := x_bb_true (S := S) (j := (zdg i).toNat) 10 (10 * b.toNat) (by unfold zdg; omega) (by unfold zdg; omega) (by
        rw [show (((zdg i).toNat : Nat) : Int) = zdg i by omega]
        omega)
      rw [hx]
      refine (if_neg (by omega)).trans ?_
      split
      · rfl
      · rfl
  exact w_er (w_giveBack c_giveBack (z_she e (by decide +kernel))) e (by decide +kernel)
theorem q_order_ex (h : Rel S S) {f i t m : Int} (hf : 0 ≤ f ∧ f < 6) (hi : 0 ≤ i ∧ i < 12) (ht : 0 ≤ t ∧ t ≤ 1) (hm : S.2.1 47 0 < m ∧ m ≤ S.2.1 47 0 + 500) (h1 : S.2.1 9 f = 1) : z_FnW mL_order [zR 0, zI f, zI (zdg i), zI t, zI m] S (zI (-7300)) S := by
  have hd := zdg_rng hi
  have ho := h.ordr
  have hn := h.now
  have e : o_order S (S.1 1).toNat f (zdg i) t m = (.error xS, S) := by
    unfold o_order
    exact (if_neg (by omega)).trans ((if_neg (by omega)).trans (if_pos (by omega)))
  exact w_er (w_order (c_order (by omega) (by omega) h.nowr) (z_she e (by decide +kernel))) e (by decide +kernel)
theorem q_order_ok (h : Rel S S) {f i t m : Int} (hf : 0 ≤ f ∧ f < 6) (hi : 0 ≤ i ∧ i < 12) (ht : 0 ≤ t ∧ t ≤ 1) (hm : S.2.1 47 0 < m ∧ m ≤ S.2.1 47 0 + 500) (h1 : S.2.1 9 f = 0) : z_FnW mL_order [zR 0, zI f, zI (zdg i), zI t, zI m] S (zI (S.2.1 47 1)) (x_oa S f (zdg i) (S.2.1 13 (zdg i)) m (x_rr S (S.1 1).toNat f (zdg i) t m)) := by
  have hd := zdg_rng hi
  have ho := h.ordr
  have hn := h.now
  have ho1 := h.ord
  have e : o_order S (S.1 1).toNat f (zdg i) t m = (zI? (S.2.1 47 1), x_oa S f (zdg i) (S.2.1 13 (zdg i)) m (x_rr S (S.1 1).toNat f (zdg i) t m)) := by
    unfold o_order
    rw [ho1]
    exact (if_neg (by omega)).trans ((if_neg (by omega)).trans (if_neg (by omega)))
  exact w_ok (w_order (c_order (by omega) (by omega) h.nowr) (z_shk e)) e
end
