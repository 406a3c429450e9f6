/-! ===== what the class tells, in the law's rows ===== -/
theorem z_ct_skip {p : Nat → Bool} {a : Nat} : ∀ d : Nat, (∀ k, a ≤ k → k < a + d → p k = false) → z_ct p (a + d) = z_ct p a
  | 0, _ => rfl
  | d + 1, h => by
    rw [show a + (d + 1) = (a + d) + 1 by omega, z_ct, z_ct_skip d (fun k x y => h k x (by omega)), h (a + d) (by omega) (by omega)]
    simp
theorem z_ct_dg {p : Nat → Bool} (h : ∀ k : Nat, k < 200 → (∀ i : Int, 0 ≤ i → i < 12 → ¬ (k : Int) = zdg i) → p k = false) : z_ct p 200 = z_ct (fun a => p (10 * (a / 3) + a % 3 * 4)) 12 := by
  have hn : ∀ k, k < 200 → k ≠ 0 → k ≠ 4 → k ≠ 8 → k ≠ 10 → k ≠ 14 → k ≠ 18 → k ≠ 20 → k ≠ 24 → k ≠ 28 → k ≠ 30 → k ≠ 34 → k ≠ 38 → p k = false := by
    intro k hk a0 a1 a2 a3 a4 a5 a6 a7 a8 a9 a10 a11
    refine h k hk (fun i x y e => ?_)
    unfold zdg at e
    omega
  rw [show (200 : Nat) = 39 + 161 from rfl, z_ct_skip 161 (fun k x y => hn k (by omega) (by omega) (by omega) (by omega) (by omega) (by omega) (by omega) (by omega) (by omega) (by omega) (by omega) (by omega) (by omega))]
  rw [show (39 : Nat) = 38 + 1 from rfl, z_ct, show (38 : Nat) = 35 + 3 from rfl, z_ct_skip 3 (fun k x y => hn k (by omega) (by omega) (by omega) (by omega) (by omega) (by omega) (by omega) (by omega) (by omega) (by omega) (by omega) (by omega) (by omega))]
  rw [show (35 : Nat) = 34 + 1 from rfl, z_ct, show (34 : Nat) = 31 + 3 from rfl, z_ct_skip 3 (fun k x y => hn k (by omega) (by omega) (by omega) (by omega) (by omega) (by omega) (by omega) (by omega) (by omega) (by omega) (by omega) (by omega) (by omega))]
  rw [show (31 : Nat) = 30 + 1 from rfl, z_ct, show (30 : Nat) = 29 + 1 from rfl, z_ct_skip 1 (fun k x y => hn k (by omega) (by omega) (by omega) (by omega) (by omega) (by omega) (by omega) (by omega) (by omega) (by omega) (by omega) (by omega) (by omega))]
  rw [show (29 : Nat) = 28 + 1 from rfl, z_ct, show (28 : Nat) = 25 + 3 from rfl, z_ct_skip 3 (fun k x y => hn k (by omega) (by omega) (by omega) (by omega) (by omega) (by omega) (by omega) (by omega) (by omega) (by omega) (by omega) (by omega) (by omega))]
  rw [show (25 : Nat) = 24 + 1 from rfl, z_ct, show (24 : Nat) = 21 + 3 from rfl, z_ct_skip 3 (fun k x y => hn k (by omega) (by omega) (by omega) (by omega) (by omega) (by omega) (by omega) (by omega) (by omega) (by omega) (by omega) (by omega) (by omega))]
  rw [show (21 : Nat) = 20 + 1 from rfl, z_ct, show (20 : Nat) = 19 + 1 from rfl, z_ct_skip 1 (fun k x y => hn k (by omega) (by omega) (by omega) (by omega) (by omega) (by omega) (by omega) (by omega) (by omega) (by omega) (by omega) (by omega) (by omega))]
  rw [show (19 : Nat) = 18 + 1 from rfl, z_ct, show (18 : Nat) = 15 + 3 from rfl, z_ct_skip 3 (fun k x y => hn k (by omega) (by omega) (by omega) (by omega) (by omega) (by omega) (by omega) (by omega) (by omega) (by omega) (by omega) (by omega) (by omega))]
  rw [show (15 : Nat) = 14 + 1 from rfl, z_ct, show (14 : Nat) = 11 + 3 from rfl, z_ct_skip 3 (fun k x y => hn k (by omega) (by omega) (by omega) (by omega) (by omega) (by omega) (by omega) (by omega) (by omega) (by omega) (by omega) (by omega) (by omega))]
  rw [show (11 : Nat) = 10 + 1 from rfl, z_ct, show (10 : Nat) = 9 + 1 from rfl, z_ct_skip 1 (fun k x y => hn k (by omega) (by omega) (by omega) (by omega) (by omega) (by omega) (by omega) (by omega) (by omega) (by omega) (by omega) (by omega) (by omega))]
  rw [show (9 : Nat) = 8 + 1 from rfl, z_ct, show (8 : Nat) = 5 + 3 from rfl, z_ct_skip 3 (fun k x y => hn k (by omega) (by omega) (by omega) (by omega) (by omega) (by omega) (by omega) (by omega) (by omega) (by omega) (by omega) (by omega) (by omega))]
  rw [show (5 : Nat) = 4 + 1 from rfl, z_ct, show (4 : Nat) = 1 + 3 from rfl, z_ct_skip 3 (fun k x y => hn k (by omega) (by omega) (by omega) (by omega) (by omega) (by omega) (by omega) (by omega) (by omega) (by omega) (by omega) (by omega) (by omega))]
  rfl
theorem zdg_nat (a : Nat) : zdg (a : Int) = ((10 * (a / 3) + a % 3 * 4 : Nat) : Int) := by
  unfold zdg
  omega
theorem z_first_cong {p q : Nat → Bool} : ∀ (k i : Nat), (∀ j, i ≤ j → j < i + k → p j = q j) → z_first p i k = z_first q i k
  | 0, _, _ => rfl
  | k + 1, i, h => by
    rw [z_first, z_first, h i (by omega) (by omega), z_first_cong k (i + 1) (fun j x y => h j (by omega) (by omega))]
/-! a route does not look at the route before -/
theorem x_ft_cong {U S : zS} {n w h : Int} (e9 : U.2.1 9 = S.2.1 9) (e13 : U.2.1 13 = S.2.1 13) (e8 : U.2.1 8 = S.2.1 8) (et : ∀ f : Int, 0 ≤ f → f < 6 → U.2.1 (30 + f.toNat) = S.2.1 (30 + f.toNat)) : ∀ (k m : Nat) (X Y : zS), 1 ≤ m → m + k = 7 → X.1 4 = m → Y.1 4 = m → (∀ j : Int, 0 ≤ j → j < m → X.2.1 39 j = Y.2.1 39 j ∧ 0 ≤ Y.2.1 39 j ∧ Y.2.1 39 j < 6) →
    (∀ q, q ≠ 39 → X.2.1 q = U.2.1 q) → (∀ q, q ≠ 39 → Y.2.1 q = S.2.1 q) → (∀ g : Int, 0 ≤ g → g < 6 → 0 ≤ x_pbt S g n ∧ x_pbt S g n < 6) → (0 ≤ h ∧ h < 6) →
    (x_ft X n w h m k).2 = (x_ft Y n w h m k).2 ∧ (x_ft X n w h m k).1.1 4 = (x_ft Y n w h m k).1.1 4 ∧ ∀ j : Int, 0 ≤ j → j < (x_ft Y n w h m k).1.1 4 → (x_ft X n w h m k).1.2.1 39 j = (x_ft Y n w h m k).1.2.1 39 j
  | 0, m, X, Y, h1, hm, a, b, c, d, e, hp, hh => by
    rw [x_ft, x_ft]
    exact ⟨rfl, a.trans b.symm, fun j x y => (c j x (by rw [b] at y; exact y)).1⟩
  | k + 1, m, X, Y, h1, hm, a, b, c, d, e, hp, hh => by
    have c0 := c ((m : Int) - 1) (by omega) (by omega)
    have c1 := c 0 (by omega) (by omega)
    have erd : x_rd X w h m = x_rd Y w h m := by
      unfold x_rd
      rw [c0.1, c1.1]
    have hrd : 0 ≤ x_rd Y w h m ∧ x_rd Y w h m < 6 := by
      unfold x_rd
      split
      · exact c1.2
      · exact c0.2
    have ep : ∀ g : Int, 0 ≤ g → g < 6 → x_pbt X g n = x_pbt Y g n ∧ x_pbt Y g n = x_pbt S g n := by
      intro g x y
      unfold x_pbt
      rw [d 8 (by omega), e 8 (by omega), e8, d _ (by omega), e _ (by omega), et g x y]
      exact ⟨rfl, rfl⟩
    have enx : x_nx X n w h m = x_nx Y n w h m := by
      unfold x_nx
      rw [erd, c0.1, (ep _ hrd.1 hrd.2).1]
    have hnx : 0 ≤ x_nx Y n w h m ∧ x_nx Y n w h m < 6 := by
      unfold x_nx
      split
      · exact hh
      · rw [(ep _ hrd.1 hrd.2).2]
        exact hp _ hrd.1 hrd.2
    have ehas : x_has X (x_nx Y n w h m) 0 m = x_has Y (x_nx Y n w h m) 0 m := by
      have i1 := x_has_iff (S := X) (f := x_nx Y n w h m) m 0
      have i2 := x_has_iff (S := Y) (f := x_nx Y n w h m) m 0
      have : x_has X (x_nx Y n w h m) 0 m = true ↔ x_has Y (x_nx Y n w h m) 0 m = true := by
        rw [i1, i2]
        constructor
        · rintro ⟨j, p1, p2, p3⟩
          exact ⟨j, p1, p2, by rw [← (c j (by omega) (by omega)).1]; exact p3⟩
        · rintro ⟨j, p1, p2, p3⟩
          exact ⟨j, p1, p2, by rw [(c j (by omega) (by omega)).1]; exact p3⟩
      cases e1 : x_has X (x_nx Y n w h m) 0 m <;> cases e2 : x_has Y (x_nx Y n w h m) 0 m
      · rfl
      · rw [e1, e2] at this; simp at this
      · rw [e1, e2] at this; simp at this
      · rfl
    have e39 : ∀ (Z : zS) (x j : Int), Z.1 4 = m → (x_ha Z x).2.1 39 j = if j = m then x else Z.2.1 39 j := by
      intro Z x j hz
      unfold x_ha
      rw [za_sS, za_sA, hz]
      by_cases q : j = m
      · rw [if_pos ⟨rfl, q⟩, if_pos q]
      · rw [if_neg (fun z => q z.2), if_neg q]
    have e4 : ∀ (Z : zS) (x : Int), Z.1 4 = m → (x_ha Z x).1 4 = ((m + 1 : Nat) : Int) := by
      intro Z x hz
      show Z.1 4 + 1 = _
      omega
    have cc : ∀ j : Int, 0 ≤ j → j < ((m + 1 : Nat) : Int) → (x_ha X (x_nx Y n w h m)).2.1 39 j = (x_ha Y (x_nx Y n w h m)).2.1 39 j ∧ 0 ≤ (x_ha Y (x_nx Y n w h m)).2.1 39 j ∧ (x_ha Y (x_nx Y n w h m)).2.1 39 j < 6 := by
      intro j x y
      rw [e39 X _ j a, e39 Y _ j b]
      by_cases q : j = m
      · rw [if_pos q, if_pos q]
        exact ⟨rfl, hnx⟩
      · rw [if_neg q, if_neg q]
        exact c j x (by omega)
    have hX : ∀ (Z : zS) (x : Int) (q : Nat), q ≠ 39 → (x_ha Z x).2.1 q = Z.2.1 q := by
      intro Z x q hq
      funext j
      unfold x_ha
      rw [za_sS, za_ne hq]
    rw [x_ft, x_ft, enx, erd, c0.1, ehas, d 13 (by omega), e 13 (by omega), e13, d 9 (by omega), e 9 (by omega), e9]
    split
    · exact ⟨rfl, a.trans b.symm, fun j x y => (c j x (by rw [b] at y; exact y)).1⟩
    · split
      · exact ⟨rfl, a.trans b.symm, fun j x y => (c j x (by rw [b] at y; exact y)).1⟩
      · split
        · exact ⟨rfl, a.trans b.symm, fun j x y => (c j x (by rw [b] at y; exact y)).1⟩
        · split
          · exact ⟨rfl, (e4 X _ a).trans (e4 Y _ b).symm, fun j x y => (cc j x (by rw [← e4 Y _ b]; exact y)).1⟩
          · exact x_ft_cong e9 e13 e8 et k (m + 1) _ _ (by omega) (by omega) (e4 X _ a) (e4 Y _ b) cc (fun q hq => (hX _ _ q hq).trans (d q hq)) (fun q hq => (hX _ _ q hq).trans (e q hq)) hp hh
/-- all but the route -/
def zRt (S U : zS) : Prop := (∀ i, i ≠ 4 → U.1 i = S.1 i) ∧ (∀ k, k ≠ 39 → U.2.1 k = S.2.1 k) ∧ U.2.2 = S.2.2
theorem zRt.rf {S : zS} : zRt S S := ⟨fun _ _ => rfl, fun _ _ => rfl, rfl⟩
theorem zRt.tr {S U X : zS} (h : zRt S U) (g : zRt U X) : zRt S X := ⟨fun i hi => (g.1 i hi).trans (h.1 i hi), fun k hk => (g.2.1 k hk).trans (h.2.1 k hk), g.2.2.trans h.2.2⟩
theorem zRt.cl {S U : zS} (h : zRt S U) : zcl U S := ⟨h.1, fun k _ _ c => h.2.1 k c⟩
theorem zRt.lw {S U : zS} (h : zRt S U) : zlw U S := ⟨fun k hk => h.2.1 k (by omega), h.2.2⟩
theorem Rel.rt {S U : zS} (h : Rel S S) (g : zRt S U) : Rel U U := h.both g.cl g.lw
theorem Rel.rtl {S U : zS} (h : Rel S S) (g : zRt S U) : Rel S U := h.law g.lw
theorem x_tc_cong {S U : zS} {f n w : Int} (hR : xR2 S) (hf : 0 ≤ f ∧ f < 6) (hn : 0 ≤ n ∧ n < 200) (g : zRt S U) : (x_tc U f n w).2 = (x_tc S f n w).2 ∧ (x_tc U f n w).1.1 4 = (x_tc S f n w).1.1 4 ∧ ∀ j : Int, 0 ≤ j → j < (x_tc S f n w).1.1 4 → (x_tc U f n w).1.2.1 39 j = (x_tc S f n w).1.2.1 39 j := by
  have hh := hR.1 (n / 10) (by omega) (by omega)
  have e39 : ∀ Z : zS, (x_hb Z f).2.1 39 0 = f := fun Z => by
    unfold x_hb
    rw [za_sS, za_eq]
  have e39b : ∀ (Z : zS) (x : Int), (x_ha (x_hb Z f) x).2.1 39 0 = f ∧ (x_ha (x_hb Z f) x).2.1 39 1 = x := fun Z x => by
    unfold x_ha
    rw [za_sS, za_sS, show (x_hb Z f).1 4 = 1 from rfl, za_ni (by omega), za_eq]
    exact ⟨e39 Z, rfl⟩
  have hX : ∀ (Z : zS) (q : Nat), q ≠ 39 → (x_hb Z f).2.1 q = Z.2.1 q := by
    intro Z q hq
    funext j
    unfold x_hb
    rw [za_sS, za_ne hq]
  unfold x_tc
  rw [g.2.1 8 (by omega), g.2.1 13 (by omega)]
  split
  · refine ⟨rfl, rfl, fun j x y => ?_⟩
    have y1 : j < 1 := y
    rw [show j = 0 by omega]
    exact (e39 U).trans (e39 S).symm
  · split
    · split
      · refine ⟨rfl, rfl, fun j x y => ?_⟩
        have y1 : j < 1 := y
        rw [show j = 0 by omega]
        exact (e39 U).trans (e39 S).symm
      · refine ⟨rfl, rfl, fun j x y => ?_⟩
        have y1 : j < 1 + 1 := y
        by_cases c : j = 0
        · rw [c]
          exact (e39b U _).1.trans (e39b S _).1.symm
        · rw [show j = 1 by omega]
          exact (e39b U _).2.trans (e39b S _).2.symm
    · refine x_ft_cong (g.2.1 9 (by omega)) (g.2.1 13 (by omega)) (g.2.1 8 (by omega)) (fun k x y => g.2.1 _ (by omega)) 6 1 (x_hb U f) (x_hb S f) (by omega) (by omega) rfl rfl (fun j x y => ?_) (hX U) (hX S) (fun k x y => ?_) (by omega)
      · rw [show j = 0 by omega, e39 U, e39 S]
        exact ⟨rfl, hf⟩
      · have := hR.2.1 k n x y hn.1 hn.2
        unfold x_pbt
        split <;> omega
theorem x_ft_e {n w h : Int} : ∀ (k m : Nat) (S : zS), 0 ≤ (x_ft S n w h m k).2 ∧ (x_ft S n w h m k).2 ≤ 4
  | 0, m, S => by rw [x_ft]; exact ⟨by simp, by simp⟩
  | k + 1, m, S => by
    rw [x_ft]
    split
    · exact ⟨by simp, by simp⟩
    · split
      · exact ⟨by simp, by simp⟩
      · split
        · exact ⟨by simp, by simp⟩
        · split
          · exact ⟨by simp, by simp⟩
          · exact x_ft_e k (m + 1) _
theorem x_tc_e {S : zS} {f n w : Int} : 0 ≤ (x_tc S f n w).2 ∧ (x_tc S f n w).2 ≤ 4 := by
  unfold x_tc
  split
  · exact ⟨by simp, by simp⟩
  · split
    · split <;> exact ⟨by simp, by simp⟩
    · exact x_ft_e _ _ _
theorem zenc_div {h : Int → Int} {k : Nat} : ∀ d : Nat, (∀ j : Int, 0 ≤ j → j < k + d → 0 ≤ h j ∧ h j < 6) → zenc h (k + d) / ((2 ^ (4 * d) : Nat) : Int) = zenc h k
  | 0, _ => by simp
  | d + 1, e => by
    have h1 := e ((k + d : Nat) : Int) (by omega) (by omega)
    rw [show k + (d + 1) = (k + d) + 1 by omega, zenc, show 4 * (d + 1) = 4 + 4 * d by omega, Nat.pow_add, Int.natCast_mul, ← Int.ediv_ediv_of_nonneg (by decide)]
    rw [show (zenc h (k + d) * 16 + (h ((k + d : Nat) : Int) + 1)) / ((2 ^ 4 : Nat) : Int) = zenc h (k + d) by omega]
    exact zenc_div d (fun j x y => e j x (by omega))
section
variable {S : zS}
theorem q_minute (h : Rel S S) : z_Fn mX6_minute [zR 0] S (some (zI (S.2.1 47 0))) S := by
  rw [h.now]
  exact c_minute
theorem q_server (h : Rel S S) {i : Int} (hi : 0 ≤ i ∧ i < 12) : z_FnW mL_server [zR 0, zI (zdg i)] S (zI (S.2.1 40 i)) S := by
  have hd := zdg_rng hi
  have e : o_server S (zdg i) = (zI? (S.2.1 13 (zdg i)), S) := by unfold o_server; exact if_neg (by omega)
  rw [(h.serv i hi.1 hi.2).1]
  exact w_ok (w_server c_server (z_shk e)) e
theorem q_anew (h : Rel S S) (h3 : S.1 3 ≤ 572) {i : Int} (hi : 0 ≤ i ∧ i < 12) : z_FnW mL_serverAnew [zR 0, zI (zdg i)] S (zI (S.2.1 40 i)) S := by
  have hd := zdg_rng hi
  have h0 := h.hisr
  have hr := h.repl (zdg i) hd.1 hd.2.1
  rw [← x_rep_z] at hr
  have e : o_serverAnew S (S.1 3).toNat (zdg i) = (zI? (S.2.1 13 (zdg i)), S) := by
    unfold o_serverAnew
    rw [hr]
    exact if_neg (by omega)
  rw [(h.serv i hi.1 hi.2).1]
  exact w_ok (w_serverAnew (c_serverAnew (by omega) (by omega)) (z_shk e)) e
theorem q_num (h : Rel S S) {i w z : Int} (hi : 0 ≤ i ∧ i < 12) (hw : 0 ≤ w ∧ w < 5) (hz : (if w = 0 then S.2.1 8 (zdg i / 10) else if w = 1 then z_b (S.1 0 ≤ S.2.1 15 (zdg i)) else if w = 2 then z_b (S.1 0 ≤ S.2.1 16 (zdg i)) else if w = 3 then z_b (S.1 0 ≤ S.2.1 17 (zdg i)) else z_on (x_wf S (zdg i) (S.1 1).toNat)) = z) : z_FnW mL_number [zR 0, zI (zdg i), zI w] S (zI z) S := by
  have hd := zdg_rng hi
  have ho := h.ordr
  have e : o_number S (S.1 1).toNat (zdg i) w = (zI? z, S) := by
    unfold o_number
    rw [hz]
    exact (if_neg (by omega)).trans (if_neg (by omega))
  exact w_ok (w_number (c_number (by omega) (by omega)) (z_shk e)) e
theorem q_num0 (h : Rel S S) {i : Int} (hi : 0 ≤ i ∧ i < 12) : z_FnW mL_number [zR 0, zI (zdg i), zI 0] S (zI (S.2.1 7 (i / 3))) S := by
  have hd := zdg_rng hi
  have hb := h.hold (i / 3) (by omega) (by omega)
  refine q_num h hi (by decide) ?_
  rw [if_pos rfl, hd.2.2, hb.1]
theorem z_b_or {p : Prop} [Decidable p] : (p ∧ z_b p = 1) ∨ (¬ p ∧ z_b p = 0) := by
  unfold z_b
  by_cases c : p
  · rw [if_pos c]; exact .inl ⟨c, rfl⟩
  · rw [if_neg c]; exact .inr ⟨c, rfl⟩
theorem q_num1 (h : Rel S S) {i : Int} (hi : 0 ≤ i ∧ i < 12) : ∃ z, z_FnW mL_number [zR 0, zI (zdg i), zI 1] S (zI z) S ∧ ((S.2.1 47 0 ≤ S.2.1 40 (24 + i) ∧ z = 1) ∨ (¬ S.2.1 47 0 ≤ S.2.1 40 (24 + i) ∧ z = 0)) := by
  refine ⟨_, q_num h hi (by decide) (z := z_b (S.1 0 ≤ S.2.1 15 (zdg i))) (by rw [if_neg (by decide), if_pos rfl]), ?_⟩
  rw [h.now, h.quar i hi.1 hi.2]
  exact z_b_or
theorem q_num2 (h : Rel S S) {i : Int} (hi : 0 ≤ i ∧ i < 12) : ∃ z, z_FnW mL_number [zR 0, zI (zdg i), zI 2] S (zI z) S ∧ ((S.2.1 47 0 ≤ S.2.1 40 (36 + i) ∧ z = 1) ∨ (¬ S.2.1 47 0 ≤ S.2.1 40 (36 + i) ∧ z = 0)) := by
  refine ⟨_, q_num h hi (by decide) (z := z_b (S.1 0 ≤ S.2.1 16 (zdg i))) (by rw [if_neg (by decide), if_neg (by decide), if_pos rfl]), ?_⟩
  rw [h.now, h.sile i hi.1 hi.2]
  exact z_b_or
theorem q_num3 (h : Rel S S) {i : Int} (hi : 0 ≤ i ∧ i < 12) : ∃ z, z_FnW mL_number [zR 0, zI (zdg i), zI 3] S (zI z) S ∧ ((S.2.1 47 0 ≤ S.2.1 40 (48 + i) ∧ z = 1) ∨ (¬ S.2.1 47 0 ≤ S.2.1 40 (48 + i) ∧ z = 0)) := by
  refine ⟨_, q_num h hi (by decide) (z := z_b (S.1 0 ≤ S.2.1 17 (zdg i))) (by rw [if_neg (by decide), if_neg (by decide), if_neg (by decide), if_pos rfl]), ?_⟩
  rw [h.now, h.call i hi.1 hi.2]
  exact z_b_or
theorem Rel.yO' {X T : zS} (h : Rel X T) : yO T (X.1 1).toNat := by
  have ho := h.ordr
  have h1 := h.ord
  exact ⟨by omega, by omega, fun a x y => (h.orv a x (by omega)).1⟩
theorem Rel.wt {X T : zS} (h : Rel X T) {i : Int} (hi : 0 ≤ i ∧ i < 12) : x_wf X (zdg i) (X.1 1).toNat = y_wt T i (X.1 1).toNat := by
  unfold x_wf y_wt
  refine z_first_cong _ _ (fun j x y => ?_)
  have q := h.ors j (by omega) (by omega)
  have v := h.orv j (by omega) (by omega)
  rw [q.1, q.2.2.1]
  refine decide_eq_decide.mpr ⟨fun e => ⟨e.1, zdg_inj (by omega) hi e.2⟩, fun e => ⟨e.1, by rw [e.2]⟩⟩
theorem Rel.wa {X T : zS} (h : Rel X T) (m : Int) : x_cwa X m (X.1 1).toNat = y_wa T m (X.1 1).toNat := by
  unfold x_cwa y_wa
  refine z_ct_cong (fun j y => ?_)
  have q := h.ors j (by omega) (by omega)
  rw [q.1, q.2.2.2.2.2]
theorem q_num4 (h : Rel S S) {i : Int} (hi : 0 ≤ i ∧ i < 12) : z_FnW mL_number [zR 0, zI (zdg i), zI 4] S (zI (z_on (y_wt S i (S.1 1).toNat))) S := by
  refine q_num h hi (by decide) ?_
  rw [if_neg (by decide), if_neg (by decide), if_neg (by decide), if_neg (by decide), h.wt hi]
theorem q_firm (h : Rel S S) (h2 : S.1 2 ≤ 600) {f w z : Int} (hf : 0 ≤ f ∧ f < 6) (hw : 0 ≤ w ∧ w < 7) (hz : (if w = 0 then S.2.1 9 f else if w = 1 then x_cb S f 20 else if w = 2 then x_sb S f 200 else if w = 3 then S.2.1 10 f else if w = 4 then S.2.1 11 f else if w = 5 then S.2.1 12 f else S.1 2 - S.2.1 28 f) = z) : z_FnW mL_firm [zR 0, zI f, zI w] S (zI z) S := by
  have e : o_firm S f w = (zI? z, S) := by
    unfold o_firm
    rw [hz]
    exact (if_neg (by omega)).trans (if_neg (by omega))
  exact w_ok (w_firm (c_firm ⟨h.chgr, h2⟩ (fun g x y => ⟨(h.lrn g x y).2, (h.flag g x y).1, (h.flag g x y).2.1⟩)) (z_shk e)) e
theorem q_firm1 (h : Rel S S) (h2 : S.1 2 ≤ 600) {f : Int} (hf : 0 ≤ f ∧ f < 6) : z_FnW mL_firm [zR 0, zI f, zI 1] S (zI (z_ct (fun b => decide (S.2.1 7 b = f)) 4 : Int)) S := by
  refine q_firm h h2 hf (by decide) ?_
  rw [if_neg (by decide), if_pos rfl]
  unfold x_cb
  rw [show (20 : Nat) = 4 + 16 from rfl, z_ct_skip 16 (fun k x y => by
    rw [h.holdo k (by omega) (by omega)]
    exact decide_eq_false (by omega)), z_ct_cong (q := fun b => decide (S.2.1 7 b = f)) (fun k hk => by rw [(h.hold k (by omega) (by omega)).1])]
theorem q_firm2 (h : Rel S S) (h2 : S.1 2 ≤ 600) {f : Int} (hf : 0 ≤ f ∧ f < 6) : z_FnW mL_firm [zR 0, zI f, zI 2] S (zI (z_ct (fun a => decide (S.2.1 40 a = f)) 12 : Int)) S := by
  refine q_firm h h2 hf (by decide) ?_
  rw [if_neg (by decide), if_neg (by decide), if_pos rfl]
  unfold x_sb
  rw [z_ct_dg (fun k hk g => by
    rw [(h.oth k (by omega) (by omega) g).1]
    exact decide_eq_false (by omega)), z_ct_cong (q := fun a => decide (S.2.1 40 a = f)) (fun k hk => by rw [(h.serv k (by omega) (by omega)).1, zdg_nat])]
theorem q_known (h : Rel S S) {f i : Int} (hf : 0 ≤ f ∧ f < 6) (hi : 0 ≤ i ∧ i < 12) : z_FnW mL_known [zR 0, zI f, zI (zdg i)] S (zI (y_iw S f i)) S := by
  have hd := zdg_rng hi
  have e : o_known S f (zdg i) = (zI? (y_iw S f i), S) := by
    unfold o_known
    rw [h.pbt hf hi]
    exact if_neg (by omega)
  exact w_ok (w_known c_known (z_shk e)) e
theorem q_audit (h : Rel S S) {f : Int} (hf : 0 ≤ f ∧ f < 6) : z_FnW mL_audit [zR 0, zI f] S (zI (z_ct (fun a => decide (¬ S.2.1 40 a = -1 ∧ ¬ y_iw S f a = S.2.1 40 a)) 12 : Int)) S := by
  have e : o_audit S f = (zI? (z_ct (fun a => decide (¬ S.2.1 40 a = -1 ∧ ¬ y_iw S f a = S.2.1 40 a)) 12 : Int), S) := by
    unfold o_audit x_au
    rw [z_ct_dg (fun k hk g => by
      rw [(h.oth k (by omega) (by omega) g).1]
      exact decide_eq_false (by simp)), z_ct_cong (q := fun a => decide (¬ S.2.1 40 a = -1 ∧ ¬ y_iw S f a = S.2.1 40 a)) (fun k hk => by rw [(h.serv k (by omega) (by omega)).1, ← h.pbt hf ⟨by omega, by omega⟩, zdg_nat])]
    exact if_neg (by omega)
  exact w_ok (w_audit c_audit (z_shk e)) e
theorem q_of (h : Rel S S) {a w z : Int} (ha : 0 ≤ a ∧ a < S.1 1) (hw : 0 ≤ w ∧ w < 6) (hz : (if w = 0 then S.2.1 19 a else if w = 1 then S.2.1 20 a else if w = 2 then S.2.1 21 a else if w = 3 then S.2.1 22 a else if w = 4 then S.2.1 23 a else S.2.1 24 a) = z) : z_FnW mL_of [zR 0, zI a, zI w] S (zI z) S := by
  have ho := h.ordr
  have e : o_of S a w = (zI? z, S) := by
    unfold o_of
    rw [hz]
    exact (if_neg (by omega)).trans (if_neg (by omega))
  exact w_ok (w_of (c_of (by omega)) (z_shk e)) e
theorem q_ofx (h : Rel S S) : z_FnW mL_of [zR 0, zI (S.2.1 47 1), zI 0] S (zI (-7100)) S := by
  have ho := h.ordr
  have h1 := h.ord
  have e : o_of S (S.2.1 47 1) 0 = (.error xI, S) := by
    unfold o_of
    exact if_pos (by omega)
  exact w_er (w_of (c_of (by omega)) (z_she e (by decide +kernel))) e (by decide +kernel)
theorem q_room (h : Rel S S) {m : Int} (hm : 0 ≤ m ∧ m ≤ 10999) : z_FnW mL_room [zR 0, zI m] S (zI (if ¬ m % 100 < 20 ∨ m ≤ S.2.1 47 0 then 0 else 3 - (y_wa S m (S.1 1).toNat : Int))) S := by
  have ho := h.ordr
  have h1 := h.now
  by_cases c : ¬ m % 100 < 20 ∨ m ≤ S.2.1 47 0
  · rw [if_pos c]
    have e : o_room S (S.1 1).toNat m = (zI? 0, S) := by
      unfold o_room
      exact (if_neg (by omega)).trans (if_pos (by rw [← h1]; exact c))
    exact w_ok (w_room (c_room (by omega) (by omega)) (z_shk e)) e
  · rw [if_neg c]
    have e : o_room S (S.1 1).toNat m = (zI? (3 - (y_wa S m (S.1 1).toNat : Int)), S) := by
      unfold o_room
      rw [h.wa m]
      exact (if_neg (by omega)).trans (if_neg (by rw [← h1]; exact c))
    exact w_ok (w_room (c_room (by omega) (by omega)) (z_shk e)) e
theorem q_why (h : Rel S S) {U : zS} (g : zRt S U) {f i w : Int} (hf : 0 ≤ f ∧ f < 6) (hi : 0 ≤ i ∧ i < 12) (hw : 0 ≤ w ∧ w ≤ 2) : ∃ U1, z_FnW mL_why [zR 0, zI f, zI (zdg i), zI w] U (zI (x_tc S f (zdg i) w).2) U1 ∧ zRt S U1 := by
  have hd := zdg_rng hi
  have hU := h.rt g
  have hc := x_tc_cong (w := w) h.xR2' hf ⟨hd.1, hd.2.1⟩ g
  have hfr := x_tc_fr (w := w) hf ⟨hd.1, hd.2.1⟩ hU.xR2'
  have e : o_why U f (zdg i) w = (zI? (x_tc S f (zdg i) w).2, (x_tc U f (zdg i) w).1) := by
    unfold o_why
    rw [hc.1]
    exact (if_neg (by omega)).trans (if_neg (by omega))
  exact ⟨_, w_ok (w_why (c_why hU.xR2') (z_shk e)) e, g.tr ⟨hfr.1, fun k hk => funext fun j => hfr.2.1 k j hk, hfr.2.2.1⟩⟩
theorem q_hop (h : Rel S S) {U : zS} (g : zRt S U) {f i w p : Int} (hf : 0 ≤ f ∧ f < 6) (hi : 0 ≤ i ∧ i < 12) (hw : 0 ≤ w ∧ w ≤ 2) (hp : 0 ≤ p) : ∃ U1, z_FnW mL_hop [zR 0, zI f, zI (zdg i), zI w, zI p] U (zI (x_hop (x_tc S f (zdg i) w).1 p)) U1 ∧ zRt S U1 := by
  have hd := zdg_rng hi
  have hU := h.rt g
  have hc := x_tc_cong (w := w) h.xR2' hf ⟨hd.1, hd.2.1⟩ g
  have hfr := x_tc_fr (w := w) hf ⟨hd.1, hd.2.1⟩ hU.xR2'
  have e : o_hop U f (zdg i) w p = (zI? (x_hop (x_tc S f (zdg i) w).1 p), (x_tc U f (zdg i) w).1) := by
    have e1 : x_hop (x_tc U f (zdg i) w).1 p = x_hop (x_tc S f (zdg i) w).1 p := by
      unfold x_hop
      rw [hc.2.1]
      by_cases c : 0 ≤ p ∧ p < (x_tc S f (zdg i) w).1.1 4
      · rw [if_pos c, if_pos c, hc.2.2 p c.1 c.2]
      · rw [if_neg c, if_neg c]
    unfold o_hop
    rw [e1]
    exact (if_neg (by omega)).trans (if_neg (by omega))
  exact ⟨_, w_ok (w_hop (c_hop hU.xR2') (z_shk e)) e, g.tr ⟨hfr.1, fun k hk => funext fun j => hfr.2.1 k j hk, hfr.2.2.1⟩⟩
end
