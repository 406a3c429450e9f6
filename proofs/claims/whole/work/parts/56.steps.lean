/-! ===== the simulation: steps of a call that changes the net ===== -/
theorem z_ct_same {p q : Nat → Bool} {n : Nat} (h : ∀ j, j < n → q j = p j) : z_ct q n = z_ct p n := z_ct_cong h
theorem z_ct_up {p q : Nat → Bool} {k : Nat} : ∀ {n : Nat}, k < n → (∀ j, j < n → j ≠ k → q j = p j) → p k = false → q k = true → z_ct q n = z_ct p n + 1
  | 0, h, _, _, _ => absurd h (by omega)
  | n + 1, h, hj, h0, h1 => by
    rw [z_ct, z_ct]
    by_cases e : k = n
    · subst e
      rw [h0, h1, z_ct_same (p := p) (q := q) (n := k) (fun j a => hj j (by omega) (by omega))]
      simp
    · rw [z_ct_up (n := n) (by omega) (fun j a b => hj j (by omega) b) h0 h1, hj n (by omega) (fun q => e q.symm)]
      omega
theorem z_ct_up1 {p q : Nat → Bool} {k n : Nat} (h : ∀ j, j < n → j ≠ k → q j = p j) : z_ct q n ≤ z_ct p n + 1 ∧ z_ct p n ≤ z_ct q n + 1 := by
  by_cases hk : k < n
  · cases e1 : p k <;> cases e2 : q k
    · rw [z_ct_same (p := p) (q := q) (fun j a => by
        by_cases e : j = k
        · subst e; rw [e1, e2]
        · exact h j a e)]
      omega
    · have := z_ct_up hk h e1 e2
      omega
    · have := z_ct_up hk (fun j a b => (h j a b).symm) e2 e1
      omega
    · rw [z_ct_same (p := p) (q := q) (fun j a => by
        by_cases e : j = k
        · subst e; rw [e1, e2]
        · exact h j a e)]
      omega
  · rw [z_ct_same (p := p) (q := q) (fun j a => h j a (by omega))]
    omega
def zPh (d : Int) (S : zS) : Prop := S.1 2 + z_ct (zaway (S.2.1 13) (S.2.1 8)) 200 + d ≤ 2 * z_ct (zdone (S.2.1 19)) (S.1 1).toNat + 2 * z_ct (zback (S.2.1 19)) (S.1 1).toNat + 60 * z_ct (zgone (S.2.1 9)) 6
def zHi (n : Nat) (e : Int) (S : zS) : Prop := S.1 3 + e ≤ n + z_ct (zdone (S.2.1 19)) (S.1 1).toNat
theorem step_chg {n : Nat} {S T : zS} (h : zRel n S T) {k p d : Int} (hk : 0 ≤ k ∧ k < 200) (hp : 0 ≤ p ∧ p ≤ 6) (hd : zPh (d + 1) S) (hd0 : 0 ≤ d) : zRel n (x_chg S (S.1 0) k p) (y_chg T k p) ∧ zPh d (x_chg S (S.1 0) k p) := by
  refine ⟨⟨h.now, h.nowr, h.ord, h.ordr, ?_, ?_, h.hold, h.gone, h.down, h.lag, h.acc, ?_, h.serv, h.secr, h.quar, h.sile, h.call, h.last, h.lastn, h.held, ?_, ?_, h.ords, h.ordv, h.ordw, h.ordd, h.uniq, ?_, h.repl, h.hisr, ?_, h.stay, h.awo⟩, ?_⟩
  · show S.1 2 + 1 = T.1 8 + 1
    have := h.chg
    omega
  · show 0 ≤ S.1 2 + 1
    have := h.chgr
    omega
  · intro f x y
    have q := h.lrn f x y
    exact ⟨q.1, q.2.1, show S.2.1 28 f ≤ S.1 2 + 1 by omega⟩
  · intro j x y
    have y2 : j < S.1 2 + 1 := y
    have ec := h.chg
    have en := h.now
    by_cases c : j = S.1 2
    · have c2 : j = T.1 8 := by omega
      simp [x_chg, y_chg, za_sA, za_sS, za_sL, zv_sA, zv_sS, zv_sL, c, ← ec, en]
      omega
    · have q := h.cat j x (by omega)
      have c2 : ¬ j = T.1 8 := by omega
      simp [x_chg, y_chg, za_sA, za_sS, za_sL, zv_sA, zv_sS, zv_sL, c, c2]
      exact q
  · intro j x
    have q := h.to6 j x
    by_cases c : j = T.1 8
    · simp [y_chg, za_sA, za_sS, za_sL, zv_sA, zv_sS, zv_sL, c]
      exact hp
    · simp [y_chg, za_sA, za_sS, za_sL, zv_sA, zv_sS, zv_sL, c]
      exact q
  · intro f j x y z w
    have q := h.tab f j x y z w
    have ql := h.lrn f x y
    have e : (x_chg S (S.1 0) k p).2.1 (30 + f.toNat) j = S.2.1 (30 + f.toNat) j := by
      unfold x_chg
      rw [za_sS, za_ne (by omega), za_ne (by omega), za_ne (by omega)]
    refine e.trans (q.trans (zlast_cong _ (fun i u v => ?_)))
    have hne : ¬ i = S.1 2 := by omega
    simp [x_chg, za_sA, za_sS, za_sL, zv_sA, zv_sS, zv_sL, hne]
  · have q : S.1 2 + z_ct (zaway (S.2.1 13) (S.2.1 8)) 200 + (d + 1) ≤ 2 * z_ct (zdone (S.2.1 19)) (S.1 1).toNat + 2 * z_ct (zback (S.2.1 19)) (S.1 1).toNat + 60 * z_ct (zgone (S.2.1 9)) 6 := hd
    show (S.1 2 + 1) + z_ct (zaway (S.2.1 13) (S.2.1 8)) 200 ≤ 2 * z_ct (zdone (S.2.1 19)) (S.1 1).toNat + 2 * z_ct (zback (S.2.1 19)) (S.1 1).toNat + 60 * z_ct (zgone (S.2.1 9)) 6
    omega
  · have q : S.1 2 + z_ct (zaway (S.2.1 13) (S.2.1 8)) 200 + (d + 1) ≤ 2 * z_ct (zdone (S.2.1 19)) (S.1 1).toNat + 2 * z_ct (zback (S.2.1 19)) (S.1 1).toNat + 60 * z_ct (zgone (S.2.1 9)) 6 := hd
    show (S.1 2 + 1) + z_ct (zaway (S.2.1 13) (S.2.1 8)) 200 + d ≤ 2 * z_ct (zdone (S.2.1 19)) (S.1 1).toNat + 2 * z_ct (zback (S.2.1 19)) (S.1 1).toNat + 60 * z_ct (zgone (S.2.1 9)) 6
    omega
theorem away_mv {S : zS} {k f o : Int} (j : Nat) (hj : j ≠ k.toNat) (hk : 0 ≤ k) : zaway ((z_sA (x_note (z_sA S 13 k f) 0 k f) 18 k o).2.1 13) ((z_sA (x_note (z_sA S 13 k f) 0 k f) 18 k o).2.1 8) j = zaway (S.2.1 13) (S.2.1 8) j := by
  have hne : ¬ (j : Int) = k := by omega
  unfold zaway
  simp [x_note, za_sA, za_sS, za_sL, zv_sA, zv_sS, zv_sL, hne]
theorem step_mv {n : Nat} {S T : zS} (h : zRel n S T) {k f o d e : Int} (hk : 0 ≤ k ∧ k < 200) (hf : 0 ≤ f ∧ f < 6) (h13 : ¬ S.2.1 13 k = -1) (hd : zPh (d + 1) S) (he : zHi n (e + 1) S) (hd0 : 0 ≤ d) (he0 : 0 ≤ e) (ho : ∃ o : Nat, (o : Int) < S.1 1 ∧ zdone (S.2.1 19) o = true ∧ S.2.1 21 o = k) : zRel n (z_sA (x_note (z_sA S 13 k f) 0 k f) 18 k o) (z_sA (z_sA T 42 k f) 47 k o) ∧ zPh d (z_sA (x_note (z_sA S 13 k f) 0 k f) 18 k o) ∧ zHi n e (z_sA (x_note (z_sA S 13 k f) 0 k f) 18 k o) := by
  refine ⟨⟨h.now, h.nowr, h.ord, h.ordr, h.chg, h.chgr, h.hold, h.gone, h.down, h.lag, h.acc, h.lrn, ?_, h.secr, h.quar, h.sile, h.call, ?_, ?_, ?_, h.cat, h.to6, h.ords, h.ordv, ?_, h.ordd, h.uniq, (fun f k x y z w => by have q := h.tab f k x y z w; (try unfold x_note at q); (try unfold x_note); (repeat (first | rw [za_ne (k' := 30 + f.toNat) (by omega)] at q | rw [za_sS] at q | rw [za_sL] at q)); (repeat (first | rw [za_ne (k' := 30 + f.toNat) (by omega)] | rw [za_sS] | rw [za_sL])); exact q), ?_, ?_, ?_, h.stay, ?_⟩, ?_⟩
  · intro j x y
    have q := h.serv j x y
    by_cases c : j = k
    · simp [x_note, za_sA, za_sS, za_sL, zv_sA, zv_sS, zv_sL, c]
      omega
    · simp [x_note, za_sA, za_sS, za_sL, zv_sA, zv_sS, zv_sL, c]
      exact q
  · intro j x y z
    by_cases c : j = k
    · simp [x_note, za_sA, za_sS, za_sL, zv_sA, zv_sS, zv_sL, c]
    · simp [x_note, za_sA, za_sS, za_sL, zv_sA, zv_sS, zv_sL, c] at z
      have q := h.last j x y z
      simp [x_note, za_sA, za_sS, za_sL, zv_sA, zv_sS, zv_sL, c]
      exact q
  · intro j x y z
    by_cases c : j = k
    · simp [x_note, za_sA, za_sS, za_sL, zv_sA, zv_sS, zv_sL, c] at z
      omega
    · simp [x_note, za_sA, za_sS, za_sL, zv_sA, zv_sS, zv_sL, c] at z
      have q := h.lastn j x y z
      simp [x_note, za_sA, za_sS, za_sL, zv_sA, zv_sS, zv_sL, c]
      exact q
  · intro j x y z
    by_cases c : j = k
    · subst c
      exact h.held j x y h13
    · simp [x_note, za_sA, za_sS, za_sL, zv_sA, zv_sS, zv_sL, c] at z
      exact h.held j x y z
  · intro j x y z
    have q := h.ordw j x y z
    by_cases c : S.2.1 21 j = k
    · simp [x_note, za_sA, za_sS, za_sL, zv_sA, zv_sS, zv_sL, c]
      omega
    · simp [x_note, za_sA, za_sS, za_sL, zv_sA, zv_sS, zv_sL, c]
      exact q
  · intro m x y
    have q := note_rep (S := S) (U := z_sA S 13 k f) (bb := 0) (nn := k) (xx := f) (m := m) h.hisr.1 rfl rfl rfl rfl
    refine q.trans ?_
    rw [h.repl m x y]
    by_cases c : m = k
    · simp [x_note, za_sA, za_sS, za_sL, zv_sA, zv_sS, zv_sL, c]
    · have c2 : ¬ k = m := fun q => c q.symm
      simp [x_note, za_sA, za_sS, za_sL, zv_sA, zv_sS, zv_sL, c, c2]
  · have q : S.1 3 + (e + 1) ≤ n + z_ct (zdone (S.2.1 19)) (S.1 1).toNat := he
    exact ⟨show 0 ≤ S.1 3 + 1 by have := h.hisr; omega, show S.1 3 + 1 ≤ n + z_ct (zdone (S.2.1 19)) (S.1 1).toNat by omega⟩
  · have q : S.1 2 + z_ct (zaway (S.2.1 13) (S.2.1 8)) 200 + (d + 1) ≤ 2 * z_ct (zdone (S.2.1 19)) (S.1 1).toNat + 2 * z_ct (zback (S.2.1 19)) (S.1 1).toNat + 60 * z_ct (zgone (S.2.1 9)) 6 := hd
    have q2 := (z_ct_up1 (p := zaway (S.2.1 13) (S.2.1 8)) (q := zaway ((z_sA (x_note (z_sA S 13 k f) 0 k f) 18 k o).2.1 13) ((z_sA (x_note (z_sA S 13 k f) 0 k f) 18 k o).2.1 8)) (k := k.toNat) (n := 200) (fun j _ b => away_mv (S := S) (f := f) (o := o) j b hk.1)).1
    show S.1 2 + z_ct (zaway ((z_sA (x_note (z_sA S 13 k f) 0 k f) 18 k o).2.1 13) ((z_sA (x_note (z_sA S 13 k f) 0 k f) 18 k o).2.1 8)) 200 ≤ 2 * z_ct (zdone (S.2.1 19)) (S.1 1).toNat + 2 * z_ct (zback (S.2.1 19)) (S.1 1).toNat + 60 * z_ct (zgone (S.2.1 9)) 6
    omega
  · intro j b c
    by_cases hj : j = k.toNat
    · obtain ⟨o9, q1, q2, q3⟩ := ho
      exact ⟨o9, q1, q2, show S.2.1 21 o9 = (j : Int) by omega⟩
    · exact h.awo j b ((away_mv j hj hk.1).symm.trans c)
  · refine ⟨?_, ?_⟩
    · have q : S.1 2 + z_ct (zaway (S.2.1 13) (S.2.1 8)) 200 + (d + 1) ≤ 2 * z_ct (zdone (S.2.1 19)) (S.1 1).toNat + 2 * z_ct (zback (S.2.1 19)) (S.1 1).toNat + 60 * z_ct (zgone (S.2.1 9)) 6 := hd
      have q2 := (z_ct_up1 (p := zaway (S.2.1 13) (S.2.1 8)) (q := zaway ((z_sA (x_note (z_sA S 13 k f) 0 k f) 18 k o).2.1 13) ((z_sA (x_note (z_sA S 13 k f) 0 k f) 18 k o).2.1 8)) (k := k.toNat) (n := 200) (fun j _ b => away_mv (S := S) (f := f) (o := o) j b hk.1)).1
      show S.1 2 + z_ct (zaway ((z_sA (x_note (z_sA S 13 k f) 0 k f) 18 k o).2.1 13) ((z_sA (x_note (z_sA S 13 k f) 0 k f) 18 k o).2.1 8)) 200 + d ≤ 2 * z_ct (zdone (S.2.1 19)) (S.1 1).toNat + 2 * z_ct (zback (S.2.1 19)) (S.1 1).toNat + 60 * z_ct (zgone (S.2.1 9)) 6
      omega
    · have q : S.1 3 + (e + 1) ≤ n + z_ct (zdone (S.2.1 19)) (S.1 1).toNat := he
      show (S.1 3 + 1) + e ≤ n + z_ct (zdone (S.2.1 19)) (S.1 1).toNat
      omega
theorem away_fin {S : zS} {k : Int} (j : Nat) (hj : j ≠ k.toNat) (hk : 0 ≤ k) : zaway ((x_note (x_fin S k (S.1 0)) 0 k (-1)).2.1 13) ((x_note (x_fin S k (S.1 0)) 0 k (-1)).2.1 8) j = zaway (S.2.1 13) (S.2.1 8) j := by
  have hne : ¬ (j : Int) = k := by omega
  unfold zaway
  simp [x_note, x_fin, y_fin, za_sA, za_sS, za_sL, zv_sA, zv_sS, zv_sL, hne]
theorem away_fin0 {S : zS} {k : Int} (hk : 0 ≤ k) : zaway ((x_note (x_fin S k (S.1 0)) 0 k (-1)).2.1 13) ((x_note (x_fin S k (S.1 0)) 0 k (-1)).2.1 8) k.toNat = false := by
  have e : ((k.toNat : Nat) : Int) = k := by omega
  unfold zaway
  rw [e]
  simp [x_note, x_fin, y_fin, za_sA, za_sS, za_sL, zv_sA, zv_sS, zv_sL]
theorem away_yes {S : zS} {k : Int} (hk : 0 ≤ k ∧ k < 200) (h1 : ¬ S.2.1 13 k = -1) (h2 : ¬ S.2.1 13 k = S.2.1 8 (k / 10)) : zaway (S.2.1 13) (S.2.1 8) k.toNat = true := by
  have e : ((k.toNat : Nat) : Int) = k := by omega
  unfold zaway
  rw [e]
  exact decide_eq_true ⟨h1, h2⟩
theorem step_fin {n : Nat} {S T : zS} (h : zRel n S T) {k : Int} (hk : 0 ≤ k ∧ k < 200) (hw : ∀ o : Int, 0 ≤ o → o < S.1 1 → S.2.1 19 o = 1 → ¬ S.2.1 21 o = k) : zRel (n + 1) (x_note (x_fin S k (S.1 0)) 0 k (-1)) (y_fin T k) ∧ (zaway (S.2.1 13) (S.2.1 8) k.toNat = true → zPh 1 (x_note (x_fin S k (S.1 0)) 0 k (-1))) := by
  refine ⟨⟨h.now, h.nowr, h.ord, h.ordr, h.chg, h.chgr, h.hold, h.gone, h.down, h.lag, h.acc, h.lrn, ?_, h.secr, ?_, ?_, ?_, ?_, ?_, ?_, h.cat, h.to6, h.ords, h.ordv, ?_, h.ordd, h.uniq, (fun f k x y z w => by have q := h.tab f k x y z w; (try unfold x_note at q); (try unfold x_fin at q); (try unfold x_note); (try unfold x_fin); (repeat (first | rw [za_ne (k' := 30 + f.toNat) (by omega)] at q | rw [za_sS] at q | rw [za_sL] at q)); (repeat (first | rw [za_ne (k' := 30 + f.toNat) (by omega)] | rw [za_sS] | rw [za_sL])); exact q), ?_, ?_, ?_, h.stay, ?_⟩, ?_⟩
  · intro j x y
    have q := h.serv j x y
    by_cases c : j = k
    · simp [x_note, x_fin, y_fin, za_sA, za_sS, za_sL, zv_sA, zv_sS, zv_sL, c]
    · simp [x_note, x_fin, y_fin, za_sA, za_sS, za_sL, zv_sA, zv_sS, zv_sL, c]
      exact q
  · intro j x y
    have q := h.quar j x y
    have qn := h.now
    have qr := h.nowr
    by_cases c : j = k
    · simp [x_note, x_fin, y_fin, za_sA, za_sS, za_sL, zv_sA, zv_sS, zv_sL, c]
      omega
    · simp [x_note, x_fin, y_fin, za_sA, za_sS, za_sL, zv_sA, zv_sS, zv_sL, c]
      exact q
  · intro j x y
    have q := h.sile j x y
    by_cases c : j = k
    · simp [x_note, x_fin, y_fin, za_sA, za_sS, za_sL, zv_sA, zv_sS, zv_sL, c]
    · simp [x_note, x_fin, y_fin, za_sA, za_sS, za_sL, zv_sA, zv_sS, zv_sL, c]
      exact q
  · intro j x y
    have q := h.call j x y
    by_cases c : j = k
    · simp [x_note, x_fin, y_fin, za_sA, za_sS, za_sL, zv_sA, zv_sS, zv_sL, c]
    · simp [x_note, x_fin, y_fin, za_sA, za_sS, za_sL, zv_sA, zv_sS, zv_sL, c]
      exact q
  · intro j x y z
    by_cases c : j = k
    · simp [x_note, x_fin, y_fin, za_sA, za_sS, za_sL, zv_sA, zv_sS, zv_sL, c] at z
    · simp [x_note, x_fin, y_fin, za_sA, za_sS, za_sL, zv_sA, zv_sS, zv_sL, c] at z
      have q := h.last j x y z
      simp [x_note, x_fin, y_fin, za_sA, za_sS, za_sL, zv_sA, zv_sS, zv_sL, c]
      exact q
  · intro j x y z
    by_cases c : j = k
    · simp [x_note, x_fin, y_fin, za_sA, za_sS, za_sL, zv_sA, zv_sS, zv_sL, c]
    · simp [x_note, x_fin, y_fin, za_sA, za_sS, za_sL, zv_sA, zv_sS, zv_sL, c] at z
      have q := h.lastn j x y z
      simp [x_note, x_fin, y_fin, za_sA, za_sS, za_sL, zv_sA, zv_sS, zv_sL, c]
      exact q
  · intro j x y z
    by_cases c : j = k
    · simp [x_note, x_fin, y_fin, za_sA, za_sS, za_sL, zv_sA, zv_sS, zv_sL, c] at z
    · simp [x_note, x_fin, y_fin, za_sA, za_sS, za_sL, zv_sA, zv_sS, zv_sL, c] at z
      exact h.held j x y z
  · intro j x y z
    have q := h.ordw j x y z
    have c : ¬ S.2.1 21 j = k := hw j x y z
    simp [x_note, x_fin, y_fin, za_sA, za_sS, za_sL, zv_sA, zv_sS, zv_sL, c]
    exact q
  · intro m x y
    have q := note_rep (S := S) (U := x_fin S k (S.1 0)) (bb := 0) (nn := k) (xx := -1) (m := m) h.hisr.1 rfl rfl rfl rfl
    refine q.trans ?_
    rw [h.repl m x y]
    by_cases c : m = k
    · simp [x_note, x_fin, y_fin, za_sA, za_sS, za_sL, zv_sA, zv_sS, zv_sL, c]
    · have c2 : ¬ k = m := fun q => c q.symm
      simp [x_note, x_fin, y_fin, za_sA, za_sS, za_sL, zv_sA, zv_sS, zv_sL, c, c2]
  · exact ⟨show 0 ≤ S.1 3 + 1 by have := h.hisr; omega, show S.1 3 + 1 ≤ ((n + 1 : Nat) : Int) + z_ct (zdone (S.2.1 19)) (S.1 1).toNat by have := h.hisr; omega⟩
  · have q := h.phi
    have q2 : z_ct (zaway ((x_note (x_fin S k (S.1 0)) 0 k (-1)).2.1 13) ((x_note (x_fin S k (S.1 0)) 0 k (-1)).2.1 8)) 200 ≤ z_ct (zaway (S.2.1 13) (S.2.1 8)) 200 := by
      by_cases hA : zaway (S.2.1 13) (S.2.1 8) k.toNat = true
      · have := z_ct_up (p := zaway ((x_note (x_fin S k (S.1 0)) 0 k (-1)).2.1 13) ((x_note (x_fin S k (S.1 0)) 0 k (-1)).2.1 8)) (q := zaway (S.2.1 13) (S.2.1 8)) (k := k.toNat) (n := 200) (by omega) (fun j _ b => (away_fin j b hk.1).symm) (away_fin0 hk.1) hA
        omega
      · rw [z_ct_same (p := zaway (S.2.1 13) (S.2.1 8)) (q := zaway ((x_note (x_fin S k (S.1 0)) 0 k (-1)).2.1 13) ((x_note (x_fin S k (S.1 0)) 0 k (-1)).2.1 8)) (n := 200) (fun j _ => by
          by_cases c : j = k.toNat
          · subst c
            rw [away_fin0 hk.1]
            simpa using hA
          · exact away_fin j c hk.1)]
        exact Nat.le_refl _
    show S.1 2 + z_ct (zaway ((x_note (x_fin S k (S.1 0)) 0 k (-1)).2.1 13) ((x_note (x_fin S k (S.1 0)) 0 k (-1)).2.1 8)) 200 ≤ 2 * z_ct (zdone (S.2.1 19)) (S.1 1).toNat + 2 * z_ct (zback (S.2.1 19)) (S.1 1).toNat + 60 * z_ct (zgone (S.2.1 9)) 6
    omega
  · intro j b c
    by_cases hj : j = k.toNat
    · subst hj
      rw [away_fin0 hk.1] at c
      cases c
    · exact h.awo j b ((away_fin j hj hk.1).symm.trans c)
  · intro hA
    have q := h.phi
    have := z_ct_up (p := zaway ((x_note (x_fin S k (S.1 0)) 0 k (-1)).2.1 13) ((x_note (x_fin S k (S.1 0)) 0 k (-1)).2.1 8)) (q := zaway (S.2.1 13) (S.2.1 8)) (k := k.toNat) (n := 200) (by omega) (fun j _ b => (away_fin j b hk.1).symm) (away_fin0 hk.1) hA
    show S.1 2 + z_ct (zaway ((x_note (x_fin S k (S.1 0)) 0 k (-1)).2.1 13) ((x_note (x_fin S k (S.1 0)) 0 k (-1)).2.1 8)) 200 + 1 ≤ 2 * z_ct (zdone (S.2.1 19)) (S.1 1).toNat + 2 * z_ct (zback (S.2.1 19)) (S.1 1).toNat + 60 * z_ct (zgone (S.2.1 9)) 6
    omega
theorem ct_st {S : zS} {o v : Int} {q : (Int → Int) → Nat → Bool} (ho : 0 ≤ o ∧ o < S.1 1) (hq : ∀ (A B : Int → Int) (k : Nat), A k = B k → q A k = q B k) : (∀ j : Nat, j ≠ o.toNat → q ((z_sA S 19 o v).2.1 19) j = q (S.2.1 19) j) ∧ (z_sA S 19 o v).2.1 19 ((o.toNat : Nat) : Int) = v := by
  have e9 : ∀ j : Int, (z_sA S 19 o v).2.1 19 j = if j = o then v else S.2.1 19 j := fun j => by simp [za_sA]
  refine ⟨fun j hj => hq _ _ j ?_, ?_⟩
  · rw [e9, if_neg (by omega)]
  · rw [e9, if_pos (by omega)]
theorem q_done (A B : Int → Int) (k : Nat) (e : A k = B k) : zdone A k = zdone B k := by unfold zdone; rw [e]
theorem q_back (A B : Int → Int) (k : Nat) (e : A k = B k) : zback A k = zback B k := by unfold zback; rw [e]
theorem ct_keep {S : zS} {o v : Int} {q : (Int → Int) → Nat → Bool} (ho : 0 ≤ o ∧ o < S.1 1) (hq : ∀ (A B : Int → Int) (k : Nat), A k = B k → q A k = q B k) (e : ∀ A : Int → Int, A o = v → q A o.toNat = q (S.2.1 19) o.toNat) : z_ct (q ((z_sA S 19 o v).2.1 19)) (S.1 1).toNat = z_ct (q (S.2.1 19)) (S.1 1).toNat := by
  obtain ⟨h1, h2⟩ := ct_st (S := S) (o := o) (v := v) (q := q) ho hq
  refine z_ct_cong (fun j hj => ?_)
  by_cases c : j = o.toNat
  · rw [c]
    exact e _ (by rw [show ((o.toNat : Nat) : Int) = o by omega] at h2; exact h2)
  · exact h1 j c
theorem ct_more {S : zS} {o v : Int} {q : (Int → Int) → Nat → Bool} (ho : 0 ≤ o ∧ o < S.1 1) (hq : ∀ (A B : Int → Int) (k : Nat), A k = B k → q A k = q B k) (e0 : q (S.2.1 19) o.toNat = false) (e : ∀ A : Int → Int, A o = v → q A o.toNat = true) : z_ct (q ((z_sA S 19 o v).2.1 19)) (S.1 1).toNat = z_ct (q (S.2.1 19)) (S.1 1).toNat + 1 := by
  obtain ⟨h1, h2⟩ := ct_st (S := S) (o := o) (v := v) (q := q) ho hq
  exact z_ct_up (k := o.toNat) (by omega) (fun j _ c => h1 j c) e0 (e _ (by rw [show ((o.toNat : Nat) : Int) = o by omega] at h2; exact h2))
theorem step_back {n : Nat} {S T : zS} (h : zRel n S T) {o d e : Int} (ho : 0 ≤ o ∧ o < S.1 1) (hw : S.2.1 19 o = 2) (hd : zPh d S) (hd0 : 0 ≤ d) (he : zHi n e S) : zRel n (z_sA S 19 o 4) (z_sA T 48 o 4) ∧ zPh (d + 2) (z_sA S 19 o 4) ∧ zHi n e (z_sA S 19 o 4) := by
  refine ⟨⟨h.now, h.nowr, h.ord, h.ordr, h.chg, h.chgr, h.hold, h.gone, h.down, h.lag, h.acc, h.lrn, h.serv, h.secr, h.quar, h.sile, h.call, h.last, h.lastn, h.held, h.cat, h.to6, ?_, h.ordv, ?_, ?_, ?_, (fun f k x y z w => by have q := h.tab f k x y z w; (repeat (first | rw [za_ne (k' := 30 + f.toNat) (by omega)] at q | rw [za_sS] at q | rw [za_sL] at q)); (repeat (first | rw [za_ne (k' := 30 + f.toNat) (by omega)] | rw [za_sS] | rw [za_sL])); exact q), h.repl, ?_, ?_, h.stay, ?_⟩, ?_⟩
  · intro j x y
    have q := h.ords j x y
    by_cases c : j = o
    · simp [za_sA, za_sS, za_sL, zv_sA, zv_sS, zv_sL, c]
      simp [c] at q
      exact q.2
    · simp [za_sA, za_sS, za_sL, zv_sA, zv_sS, zv_sL, c]
      exact q
  · intro j x y z
    by_cases c : j = o
    · simp [za_sA, za_sS, za_sL, zv_sA, zv_sS, zv_sL, c] at z
    · simp [za_sA, za_sS, za_sL, zv_sA, zv_sS, zv_sL, c] at z
      exact h.ordw j x y z
  · intro j x y z
    by_cases c : j = o
    · simp [za_sA, za_sS, za_sL, zv_sA, zv_sS, zv_sL, c] at z
    · simp [za_sA, za_sS, za_sL, zv_sA, zv_sS, zv_sL, c] at z
      exact h.ordd j x y z
  · intro j i a b c d e f g
    by_cases hj : j = o
    · simp [za_sA, za_sS, za_sL, zv_sA, zv_sS, zv_sL, hj] at e
    · by_cases hi : i = o
      · simp [za_sA, za_sS, za_sL, zv_sA, zv_sS, zv_sL, hi] at f
      · simp [za_sA, za_sS, za_sL, zv_sA, zv_sS, zv_sL, hj] at e
        simp [za_sA, za_sS, za_sL, zv_sA, zv_sS, zv_sL, hi] at f
        exact h.uniq j i a b c d e f g
  · show 0 ≤ S.1 3 ∧ S.1 3 ≤ n + z_ct (zdone ((z_sA S 19 o 4).2.1 19)) (S.1 1).toNat
    rw [ct_keep (S := S) (o := o) (v := 4) (q := zdone) ho q_done (fun A e => by unfold zdone; rw [show ((o.toNat : Nat) : Int) = o by omega, e, hw]; rfl)]
    exact h.hisr
  · have q : S.1 2 + z_ct (zaway (S.2.1 13) (S.2.1 8)) 200 + d ≤ 2 * z_ct (zdone (S.2.1 19)) (S.1 1).toNat + 2 * z_ct (zback (S.2.1 19)) (S.1 1).toNat + 60 * z_ct (zgone (S.2.1 9)) 6 := hd
    show S.1 2 + z_ct (zaway (S.2.1 13) (S.2.1 8)) 200 ≤ 2 * z_ct (zdone ((z_sA S 19 o 4).2.1 19)) (S.1 1).toNat + 2 * z_ct (zback ((z_sA S 19 o 4).2.1 19)) (S.1 1).toNat + 60 * z_ct (zgone (S.2.1 9)) 6
    have c1 := ct_keep (S := S) (o := o) (v := 4) (q := zdone) ho q_done (fun A e => by unfold zdone; rw [show ((o.toNat : Nat) : Int) = o by omega, e, hw]; rfl)
    have c2 := ct_more (S := S) (o := o) (v := 4) (q := zback) ho q_back (by unfold zback; rw [show ((o.toNat : Nat) : Int) = o by omega, hw]; rfl) (fun A e => by unfold zback; rw [show ((o.toNat : Nat) : Int) = o by omega, e]; rfl)
    omega
  · intro j b c
    obtain ⟨p, q1, q2, q3⟩ := h.awo j b c
    refine ⟨p, q1, ?_, q3⟩
    by_cases hp : (p : Int) = o
    · unfold zdone
      simp [za_sA, za_sS, za_sL, zv_sA, zv_sS, zv_sL, hp]
    · unfold zdone at q2 ⊢
      simp [za_sA, za_sS, za_sL, zv_sA, zv_sS, zv_sL, hp]
      simpa using q2
  · refine ⟨?_, ?_⟩
    · have q : S.1 2 + z_ct (zaway (S.2.1 13) (S.2.1 8)) 200 + d ≤ 2 * z_ct (zdone (S.2.1 19)) (S.1 1).toNat + 2 * z_ct (zback (S.2.1 19)) (S.1 1).toNat + 60 * z_ct (zgone (S.2.1 9)) 6 := hd
      show S.1 2 + z_ct (zaway (S.2.1 13) (S.2.1 8)) 200 + (d + 2) ≤ 2 * z_ct (zdone ((z_sA S 19 o 4).2.1 19)) (S.1 1).toNat + 2 * z_ct (zback ((z_sA S 19 o 4).2.1 19)) (S.1 1).toNat + 60 * z_ct (zgone (S.2.1 9)) 6
      have c1 := ct_keep (S := S) (o := o) (v := 4) (q := zdone) ho q_done (fun A e => by unfold zdone; rw [show ((o.toNat : Nat) : Int) = o by omega, e, hw]; rfl)
      have c2 := ct_more (S := S) (o := o) (v := 4) (q := zback) ho q_back (by unfold zback; rw [show ((o.toNat : Nat) : Int) = o by omega, hw]; rfl) (fun A e => by unfold zback; rw [show ((o.toNat : Nat) : Int) = o by omega, e]; rfl)
      omega
    · have q : S.1 3 + e ≤ n + z_ct (zdone (S.2.1 19)) (S.1 1).toNat := he
      show S.1 3 + e ≤ n + z_ct (zdone ((z_sA S 19 o 4).2.1 19)) (S.1 1).toNat
      rw [ct_keep (S := S) (o := o) (v := 4) (q := zdone) ho q_done (fun A e => by unfold zdone; rw [show ((o.toNat : Nat) : Int) = o by omega, e, hw]; rfl)]
      exact q
theorem step_done {n : Nat} {S T : zS} (h : zRel n S T) {o d e : Int} (ho : 0 ≤ o ∧ o < S.1 1) (hw : S.2.1 19 o = 1) (hdue : S.2.1 24 o = S.1 0) (hd : zPh d S) (hd0 : 0 ≤ d) (he : zHi n e S) (he0 : 0 ≤ e) : zRel n (z_sA (z_sA S 19 o 2) 23 o (S.2.1 13 (S.2.1 21 o))) (z_sA (z_sA (z_sA T 52 o (T.2.1 42 (T.2.1 50 o))) 48 o 2) 54 o (T.1 6)) ∧ zPh (d + 2) (z_sA (z_sA S 19 o 2) 23 o (S.2.1 13 (S.2.1 21 o))) ∧ zHi n (e + 1) (z_sA (z_sA S 19 o 2) 23 o (S.2.1 13 (S.2.1 21 o))) := by
  refine ⟨⟨h.now, h.nowr, h.ord, h.ordr, h.chg, h.chgr, h.hold, h.gone, h.down, h.lag, h.acc, h.lrn, h.serv, h.secr, h.quar, h.sile, h.call, h.last, h.lastn, h.held, h.cat, h.to6, ?_, h.ordv, ?_, ?_, ?_, (fun f k x y z w => by have q := h.tab f k x y z w; (repeat (first | rw [za_ne (k' := 30 + f.toNat) (by omega)] at q | rw [za_sS] at q | rw [za_sL] at q)); (repeat (first | rw [za_ne (k' := 30 + f.toNat) (by omega)] | rw [za_sS] | rw [za_sL])); exact q), h.repl, ?_, ?_, h.stay, ?_⟩, ?_⟩
  · intro j x y
    have q := h.ords j x y
    by_cases c : j = o
    · have qv := h.ordv o ho.1 ho.2
      have qs := h.serv (S.2.1 21 o) qv.1.1 qv.1.2
      simp [c] at q
      simp [za_sA, za_sS, za_sL, zv_sA, zv_sS, zv_sL, c]
      refine ⟨q.2.1, q.2.2.1, q.2.2.2.1, ?_, q.2.2.2.2.2⟩
      rw [← q.2.2.1]
      exact qs.1
    · simp [za_sA, za_sS, za_sL, zv_sA, zv_sS, zv_sL, c]
      exact q
  · intro j x y z
    by_cases c : j = o
    · simp [za_sA, za_sS, za_sL, zv_sA, zv_sS, zv_sL, c] at z
    · simp [za_sA, za_sS, za_sL, zv_sA, zv_sS, zv_sL, c] at z
      exact h.ordw j x y z
  · intro j x y z
    by_cases c : j = o
    · have qv := h.ordv o ho.1 ho.2
      have qw := h.ordw o ho.1 ho.2 hw
      have qs := h.serv (S.2.1 21 o) qv.1.1 qv.1.2
      have qn := h.nowr
      simp [za_sA, za_sS, za_sL, zv_sA, zv_sS, zv_sL, c]
      refine ⟨by rw [hdue]; exact h.now.symm, by omega, by omega⟩
    · simp [za_sA, za_sS, za_sL, zv_sA, zv_sS, zv_sL, c] at z
      have q := h.ordd j x y z
      simp [za_sA, za_sS, za_sL, zv_sA, zv_sS, zv_sL, c]
      exact q
  · intro j i a b c d e f g
    by_cases hj : j = o
    · simp [za_sA, za_sS, za_sL, zv_sA, zv_sS, zv_sL, hj] at e
    · by_cases hi : i = o
      · simp [za_sA, za_sS, za_sL, zv_sA, zv_sS, zv_sL, hi] at f
      · simp [za_sA, za_sS, za_sL, zv_sA, zv_sS, zv_sL, hj] at e
        simp [za_sA, za_sS, za_sL, zv_sA, zv_sS, zv_sL, hi] at f
        exact h.uniq j i a b c d e f g
  · show 0 ≤ S.1 3 ∧ S.1 3 ≤ n + z_ct (zdone ((z_sA S 19 o 2).2.1 19)) (S.1 1).toNat
    rw [ct_more (S := S) (o := o) (v := 2) (q := zdone) ho q_done (by unfold zdone; rw [show ((o.toNat : Nat) : Int) = o by omega, hw]; rfl) (fun A e => by unfold zdone; rw [show ((o.toNat : Nat) : Int) = o by omega, e]; rfl)]
    have := h.hisr
    omega
  · have q : S.1 2 + z_ct (zaway (S.2.1 13) (S.2.1 8)) 200 + d ≤ 2 * z_ct (zdone (S.2.1 19)) (S.1 1).toNat + 2 * z_ct (zback (S.2.1 19)) (S.1 1).toNat + 60 * z_ct (zgone (S.2.1 9)) 6 := hd
    show S.1 2 + z_ct (zaway (S.2.1 13) (S.2.1 8)) 200 ≤ 2 * z_ct (zdone ((z_sA S 19 o 2).2.1 19)) (S.1 1).toNat + 2 * z_ct (zback ((z_sA S 19 o 2).2.1 19)) (S.1 1).toNat + 60 * z_ct (zgone (S.2.1 9)) 6
    have c1 := ct_more (S := S) (o := o) (v := 2) (q := zdone) ho q_done (by unfold zdone; rw [show ((o.toNat : Nat) : Int) = o by omega, hw]; rfl) (fun A e => by unfold zdone; rw [show ((o.toNat : Nat) : Int) = o by omega, e]; rfl)
    have c2 := ct_keep (S := S) (o := o) (v := 2) (q := zback) ho q_back (fun A e => by unfold zback; rw [show ((o.toNat : Nat) : Int) = o by omega, e, hw]; rfl)
    omega
  · intro j b c
    obtain ⟨p, q1, q2, q3⟩ := h.awo j b c
    refine ⟨p, q1, ?_, q3⟩
    by_cases hp : (p : Int) = o
    · unfold zdone
      simp [za_sA, za_sS, za_sL, zv_sA, zv_sS, zv_sL, hp]
    · unfold zdone at q2 ⊢
      simp [za_sA, za_sS, za_sL, zv_sA, zv_sS, zv_sL, hp]
      simpa using q2
  · refine ⟨?_, ?_⟩
    · have q : S.1 2 + z_ct (zaway (S.2.1 13) (S.2.1 8)) 200 + d ≤ 2 * z_ct (zdone (S.2.1 19)) (S.1 1).toNat + 2 * z_ct (zback (S.2.1 19)) (S.1 1).toNat + 60 * z_ct (zgone (S.2.1 9)) 6 := hd
      show S.1 2 + z_ct (zaway (S.2.1 13) (S.2.1 8)) 200 + (d + 2) ≤ 2 * z_ct (zdone ((z_sA S 19 o 2).2.1 19)) (S.1 1).toNat + 2 * z_ct (zback ((z_sA S 19 o 2).2.1 19)) (S.1 1).toNat + 60 * z_ct (zgone (S.2.1 9)) 6
      have c1 := ct_more (S := S) (o := o) (v := 2) (q := zdone) ho q_done (by unfold zdone; rw [show ((o.toNat : Nat) : Int) = o by omega, hw]; rfl) (fun A e => by unfold zdone; rw [show ((o.toNat : Nat) : Int) = o by omega, e]; rfl)
      have c2 := ct_keep (S := S) (o := o) (v := 2) (q := zback) ho q_back (fun A e => by unfold zback; rw [show ((o.toNat : Nat) : Int) = o by omega, e, hw]; rfl)
      omega
    · have q : S.1 3 + e ≤ n + z_ct (zdone (S.2.1 19)) (S.1 1).toNat := he
      show S.1 3 + (e + 1) ≤ n + z_ct (zdone ((z_sA S 19 o 2).2.1 19)) (S.1 1).toNat
      rw [ct_more (S := S) (o := o) (v := 2) (q := zdone) ho q_done (by unfold zdone; rw [show ((o.toNat : Nat) : Int) = o by omega, hw]; rfl) (fun A e => by unfold zdone; rw [show ((o.toNat : Nat) : Int) = o by omega, e]; rfl)]
      omega
theorem step_put {n : Nat} {S T : zS} (h : zRel n S T) {o m : Int} (ho : 0 ≤ o ∧ o < S.1 1) (hw : S.2.1 19 o = 1) (hm : 0 ≤ m ∧ m ≤ 20000) : zRel n (z_sA S 24 o m) (z_sA T 53 o m) := by
  refine ⟨h.now, h.nowr, h.ord, h.ordr, h.chg, h.chgr, h.hold, h.gone, h.down, h.lag, h.acc, h.lrn, h.serv, h.secr, h.quar, h.sile, h.call, h.last, h.lastn, h.held, h.cat, h.to6, ?_, ?_, h.ordw, ?_, h.uniq, (fun f k x y z w => by have q := h.tab f k x y z w; (repeat (first | rw [za_ne (k' := 30 + f.toNat) (by omega)] at q | rw [za_sS] at q | rw [za_sL] at q)); (repeat (first | rw [za_ne (k' := 30 + f.toNat) (by omega)] | rw [za_sS] | rw [za_sL])); exact q), h.repl, h.hisr, h.phi, h.stay, h.awo⟩
  · intro j x y
    have q := h.ords j x y
    by_cases c : j = o
    · simp [za_sA, za_sS, za_sL, zv_sA, zv_sS, zv_sL, c]
      simp [c] at q
      exact ⟨q.1, q.2.1, q.2.2.1, q.2.2.2.1, q.2.2.2.2.1⟩
    · simp [za_sA, za_sS, za_sL, zv_sA, zv_sS, zv_sL, c]
      exact q
  · intro j x y
    have q := h.ordv j x y
    by_cases c : j = o
    · simp [za_sA, za_sS, za_sL, zv_sA, zv_sS, zv_sL, c]
      simp [c] at q
      exact ⟨q.1, q.2.1, hm⟩
    · simp [za_sA, za_sS, za_sL, zv_sA, zv_sS, zv_sL, c]
      exact q
  · intro j x y z
    have q := h.ordd j x y z
    by_cases c : j = o
    · exact absurd z (by rw [c]; show ¬ S.2.1 19 o = 2; omega)
    · simp [za_sA, za_sS, za_sL, zv_sA, zv_sS, zv_sL, c]
      exact q
theorem step_tick {n : Nat} {S T : zS} (h : zRel n S T) (h9 : S.1 0 < 9999) : zRel n (z_sS S 0 (S.1 0 + 1)) (z_sS T 6 (T.1 6 + 1)) := by
  refine ⟨?_, ?_, h.ord, h.ordr, h.chg, h.chgr, h.hold, h.gone, h.down, h.lag, h.acc, h.lrn, h.serv, h.secr, h.quar, h.sile, h.call, h.last, h.lastn, h.held, h.cat, h.to6, h.ords, h.ordv, h.ordw, h.ordd, h.uniq, (fun f k x y z w => by have q := h.tab f k x y z w; (repeat (first | rw [za_ne (k' := 30 + f.toNat) (by omega)] at q | rw [za_sS] at q | rw [za_sL] at q)); (repeat (first | rw [za_ne (k' := 30 + f.toNat) (by omega)] | rw [za_sS] | rw [za_sL])); exact q), h.repl, h.hisr, h.phi, h.stay, h.awo⟩
  · show S.1 0 + 1 = T.1 6 + 1
    have := h.now
    omega
  · show 0 ≤ S.1 0 + 1 ∧ S.1 0 + 1 ≤ 9999
    have := h.nowr
    omega
