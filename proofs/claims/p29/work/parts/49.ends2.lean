/-! ===== a firm ends: the call ===== -/
/-- the law: its orders fall -/
def y_cl (f : Int) : Nat → Nat → zS → zS
  | _, 0, T => T
  | o, k + 1, T => y_cl f (o + 1) k (if T.2.1 42 o % 8 = 1 ∧ T.2.1 42 o / 1024 % 8 = f then z_sA T 42 o (T.2.1 42 o + 2) else T)
theorem rel_cl {f : Int} {c : Nat} : ∀ (k o : Nat) (X T : zS), o + k = c → X.1 1 = c → Rel X T → Rel (x_cby X f o k) (y_cl f o k T)
  | 0, _, _, _, _, _, r => r
  | k + 1, o, X, T, ho, hc, r => by
    have qs := r.ors o (by omega) (by omega)
    rw [x_cby, y_cl]
    by_cases e : X.2.1 19 o = 1 ∧ X.2.1 22 o = f
    · rw [if_pos e, if_pos (by omega)]
      exact rel_cl k (o + 1) _ _ (by omega) hc (rel_canc r (by omega) e.1)
    · rw [if_neg e, if_neg (by omega)]
      exact rel_cl k (o + 1) _ _ (by omega) hc r
theorem zOr_128 {x : Int} (h0 : 0 ≤ x) (h1 : x < 1073741824) (hb : x / 128 % 2 = 0) : zOr x 128 = x + 128 := by
  obtain ⟨a, rfl⟩ := zb_nat h0
  have e : (a / 256 * 2 ^ 8 + a % 128) ||| (1 * 2 ^ 7) = a / 256 * 2 ^ 8 + (1 * 2 ^ 7 + a % 128) := by
    rw [← zf_or (a := a / 256) (k := 8) (b := a % 128) (by omega), Nat.or_assoc, Nat.or_comm (a % 128), zf_or (k := 7) (by omega), zf_or (k := 8) (by omega)]
  have e1 : (a / 256 * 256 + a % 128) ||| 128 = a / 256 * 256 + (128 + a % 128) := e
  have ea : a / 256 * 256 + a % 128 = a := by omega
  rw [ea] at e1
  have e2 := zOr_n (a := a) (b := 128) (by rw [e1]; omega)
  rw [e1] at e2
  refine e2.trans ?_
  clear e e1 e2
  omega
theorem zK.start {S U : zS} (h : Rel S S) (eC : zcl U S) {f e : Int} (he : 0 ≤ e ∧ e < 6) : zK f e S 0 0 (z_sA U 9 f 1) (y_hl f e 0 4 S) := by
  have hx := x_hl_at (f := f) (h := e) 4 0 S
  refine ⟨_, rel_hl he 4 0 S S (by omega) h, fun q _ b => by rw [hx.1]; exact eC.1 q b, fun k a b c => ?_, ⟨rfl, hx.2.1 9 (by omega)⟩, fun k => ?_, ?_⟩
  · rw [hx.2.1 k (by omega), ← eC.2 k (by omega) (by omega) (by omega)]
    exact funext fun j => za_ne (by omega)
  · rw [if_neg (by omega), za_ne (by omega), eC.2 13 (by omega) (by omega) (by omega)]
  · show U.1 2 ≤ S.1 2 + ((0 : Nat) : Int)
    rw [eC.1 2 (by omega)]
    omega
theorem q_gone_ex {S : zS} (h : Rel S S) (h2 : S.1 2 + 12 ≤ 600) (h3 : S.1 3 < 572) {f e : Int} (hf : 0 ≤ f ∧ f < 6) (he : 0 ≤ e ∧ e < 6) (hfe : ¬ f = e) (hc : ¬ S.2.1 9 f = 0 ∨ ¬ S.2.1 9 e = 0) : z_FnW mL_endFirm [zR 0, zI f, zI e] S (zI (-7300)) S := by
  have ho := h.ordr
  obtain ⟨⟨V, _, _, _, _, _, eb⟩, _, _⟩ := zK.all h (fun j => za_ne (by omega)) (zK.start h zcl.rf he) hf he hfe
  have e0 : o_endFirm S (S.1 1).toNat f e = (.error xS, S) := by
    unfold o_endFirm
    exact (if_neg (by omega)).trans ((if_neg hfe).trans (if_pos hc))
  exact w_er (w_endFirm (c_endFirm (by omega) (by omega) h.chgr (by omega) ⟨h.hisr, h3⟩) (z_she e0 (by decide +kernel))) e0 (by decide +kernel)
/-- the law's rows once a firm has ended, and the class's answer on them -/
theorem q_endFirm {n : Nat} {S U : zS} (hI : zInv n S) (hn : n < 150) (hg : S.1 2 < 46) {f e : Int} (hf : 0 ≤ f ∧ f < 6) (he : 0 ≤ e ∧ e < 6) (hfe : ¬ f = e) (g0 : S.2.1 9 f = 0) (g1 : S.2.1 9 e = 0) (eU : zlw U (z_sA (y_cl f 0 (S.1 1).toNat (y_el f e S 0 12 (y_hl f e 0 4 S))) 46 f (S.2.1 46 f + 128))) (eC : zcl U S) : ∃ W, z_FnW mL_endFirm [zR 0, zI f, zI e] U (zI (y_ec f S 0 12)) W ∧ zInv (n + 1) W := by
  have h := hI.1
  have ho := h.ordr
  have h3 := hI.2.2.1
  have hfi := h.firm f hf.1 hf.2
  have u1 := eC.1 1 (by omega)
  have u2 := eC.1 2 (by omega)
  have u3 := eC.1 3 (by omega)
  have hhr := h.hisr
  have hcr := h.chgr
  have u9 := eC.2 9 (by omega) (by omega) (by omega)
  obtain ⟨⟨V, r, e1, e2, e8, e13, eb⟩, ec, s8⟩ := zK.all h (fun j => by rw [za_ne (by omega), eC.2 8 (by omega) (by omega) (by omega)]) (zK.start (f := f) h eC he) hf he hfe
  have fr := x_ebl_fr (f := f) (h := e) 20 0 (z_sA U 9 f 1)
  have mo := x_ebl_mono (f := f) (h := e) 20 0 (z_sA U 9 f 1)
  have mo2 : S.1 2 ≤ (x_ebl (z_sA U 9 f 1) f e 0 20).1 2 := by
    have : (z_sA U 9 f 1).1 2 = U.1 2 := rfl
    omega
  obtain ⟨W, eW⟩ : ∃ W, W = x_ef U (S.1 1).toNat f e := ⟨_, rfl⟩
  have e0 : o_endFirm U (S.1 1).toNat f e = (zI? (y_ec f S 0 12), W) := by
    unfold o_endFirm
    rw [ec, eW]
    exact (if_neg (by omega)).trans ((if_neg hfe).trans (if_neg (by rw [u9]; omega)))
  have hq := w_ok (w_endFirm (c_endFirm (S := U) (f := f) (h := e) (c := (S.1 1).toNat) (by omega) (by omega) (by omega) (by omega) ⟨by omega, by omega⟩) (z_shk e0)) e0
  refine ⟨W, hq, ?_⟩
  clear hq e0
  unfold x_ef at eW
  obtain ⟨f1, f2, f3⟩ := fr
  generalize x_ebl (z_sA U 9 f 1) f e 0 20 = X at eW e1 e2 e13 eb s8 mo2 f1 f2 f3
  have x1 : X.1 1 = S.1 1 := (f1 1 (by omega)).trans u1
  have x3 : X.1 3 = S.1 3 := (f1 3 (by omega)).trans u3
  have xS : ∀ k, 8 ≤ k → k < 39 → k ≠ 8 → k ≠ 9 → k ≠ 13 → k ≠ 18 → k ≠ 25 → k ≠ 26 → k ≠ 27 → X.2.1 k = S.2.1 k := fun k a0 b0 a b c d g i j => by
    rw [← eC.2 k a0 (by omega) (by omega)]
    exact funext fun m => (f2 k m a c d g i j).trans (za_ne b)
  obtain ⟨w1, w2, w3, w4⟩ := x_cby_at (f := f) (S.1 1).toNat 0 (x_note X 1 f e)
  rw [← eW] at w1 w2 w3 w4
  obtain ⟨v1, v2, v3, v4⟩ := x_cby_at (f := f) (S.1 1).toNat 0 V
  have r2 := rel_cl (f := f) (c := (S.1 1).toNat) (S.1 1).toNat 0 V _ (by omega) (by rw [← e1 1 (by omega) (by omega)]; omega) r
  have ve : ∀ k, 10 ≤ k → k < 13 → V.2.1 k = S.2.1 k := fun k a b => by
    rw [← e2 k a (by omega) (by omega)]
    exact xS k (by omega) (by omega) (by omega) (by omega) (by omega) (by omega) (by omega) (by omega) (by omega)
  have r3 := rel_gone r2 (f := f) (v := 1) (w := S.2.1 46 f + 128) hf (.inr rfl) (by
    rw [v3 12 (by omega), v3 10 (by omega), v3 11 (by omega), ve 12 (by omega) (by omega), ve 10 (by omega) (by omega), ve 11 (by omega) (by omega), hfi, g0]
    omega)
  have wn : ∀ k, k ≠ 36 → k ≠ 37 → k ≠ 38 → (x_note X 1 f e).2.1 k = X.2.1 k := fun k a b c => funext fun j => by
    unfold x_note
    rw [za_sS, za_ne c, za_ne b, za_ne a]
  have hw3 : W.1 3 = S.1 3 + 1 := by
    rw [w1]
    show X.1 3 + 1 = _
    omega
  have hw2 : W.1 2 = X.1 2 := by
    rw [w1]
    rfl
  have r4 : Rel W (z_sA (y_cl f 0 (S.1 1).toNat (y_el f e S 0 12 (y_hl f e 0 4 S))) 46 f (S.2.1 46 f + 128)) := by
    refine r3.hist (fun q a b => ?_) (fun k a b c => ?_) (by omega) (fun m a b => ?_)
    · rw [w1]
      show (z_sS _ 3 _).1 q = (x_cby V f 0 (S.1 1).toNat).1 q
      rw [zv_sS, if_neg a, v1]
      exact e1 q a b
    · by_cases k8 : k = 8
      · subst k8
        rw [w3 8 (by omega), wn 8 (by omega) (by omega) (by omega)]
        funext j
        rw [za_ne (by omega), v3 8 (by omega), s8 j, e8.1]
      · by_cases k9 : k = 9
        · subst k9
          rw [w3 9 (by omega), wn 9 (by omega) (by omega) (by omega)]
          funext j
          rw [f2 9 j (by omega) (by omega) (by omega) (by omega) (by omega) (by omega), za_sA, za_sA, v3 9 (by omega), e8.2, u9]
        · have xe := e2 k (by omega) b c
          by_cases k19 : k = 19
          · subst k19
            have xe22 := e2 22 (by omega) (by omega) (by omega)
            funext j
            rw [za_ne (by omega), w4 j, v4 j, wn 19 (by omega) (by omega) (by omega), wn 22 (by omega) (by omega) (by omega), xe, xe22]
          · rw [w3 k k19, wn k (by omega) (by omega) (by omega), xe]
            funext j
            rw [za_ne k9, v3 k k19]
    · rw [za_ne (by omega), v3 13 (by omega), ← e2 13 (by omega) (by omega) (by omega), e13 m, w3 36 (by omega), w3 37 (by omega), w3 38 (by omega), w1, note_rep (S := S) (U := X) hhr (xS 36 (by omega) (by omega) (by omega) (by omega) (by omega) (by omega) (by omega) (by omega) (by omega)) (xS 37 (by omega) (by omega) (by omega) (by omega) (by omega) (by omega) (by omega) (by omega) (by omega)) (xS 38 (by omega) (by omega) (by omega) (by omega) (by omega) (by omega) (by omega) (by omega) (by omega)) x3, if_neg (c := (1 : Int) = 0) (by decide), h.repl m a b]
      by_cases c : S.2.1 13 m = f
      · rw [if_pos c.symm, if_pos ⟨by omega, c⟩]
      · rw [if_neg (fun q => c q.symm), if_neg (fun q => c q.2)]
  have r5 : zlw W U := by
    refine ⟨fun k hk => ?_, ?_⟩
    · rw [w3 k (by omega), wn k (by omega) (by omega) (by omega)]
      exact funext fun j => (f2 k j (by omega) (by omega) (by omega) (by omega) (by omega) (by omega)).trans (za_ne (by omega))
    · rw [w2]
      exact f3
  refine hI.next (r4.law (r5.tr eU)) (by omega) (by omega) ?_ (by omega)
  rw [w3 12 (by omega), wn 12 (by omega) (by omega) (by omega)]
  exact xS 12 (by omega) (by omega) (by omega) (by omega) (by omega) (by omega) (by omega) (by omega) (by omega)
