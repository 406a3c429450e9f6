/-! ===== the simulation: endFirm ===== -/
theorem note_any {X : zS} {b n x : Int} {q : Nat} (h1 : q ≠ 36) (h2 : q ≠ 37) (h3 : q ≠ 38) : (x_note X b n x).2.1 q = X.2.1 q := by
  funext j
  unfold x_note
  rw [za_sS, za_ne h3, za_ne h2, za_ne h1]
def zEx (f h : Int) (S X : zS) : Prop :=
  (∀ q, q ≠ 2 → q ≠ 3 → X.1 q = S.1 q) ∧ X.1 3 = S.1 3 + 1 ∧ X.1 2 = S.1 2 + z_ct (zec f h S) 200 ∧
  (∀ q, q ≠ 8 → q ≠ 9 → q ≠ 13 → q ≠ 18 → q ≠ 19 → q ≠ 25 → q ≠ 26 → q ≠ 27 → q ≠ 36 → q ≠ 37 → q ≠ 38 → X.2.1 q = S.2.1 q) ∧
  (∀ j : Int, 0 ≤ j → j < 20 → X.2.1 8 j = if S.2.1 8 j = f then h else S.2.1 8 j) ∧ (∀ j : Int, X.2.1 9 j = if j = f then 1 else S.2.1 9 j) ∧
  (∀ k : Int, 0 ≤ k → k < 200 → (X.2.1 13 k = if S.2.1 13 k = f then h else S.2.1 13 k) ∧ (X.2.1 18 k = if S.2.1 13 k = f then -1 else S.2.1 18 k)) ∧
  (∀ o : Int, 0 ≤ o → o < S.1 1 → X.2.1 19 o = if S.2.1 19 o = 1 ∧ S.2.1 22 o = f then 3 else S.2.1 19 o) ∧
  (∀ j : Int, 0 ≤ j → j < S.1 2 → X.2.1 26 j = S.2.1 26 j ∧ X.2.1 27 j = S.2.1 27 j) ∧
  ∀ m : Int, zrep (X.2.1 36) (X.2.1 37) (X.2.1 38) m 0 (X.1 3).toNat (-1) = if f = zrep (S.2.1 36) (S.2.1 37) (S.2.1 38) m 0 (S.1 3).toNat (-1) then h else zrep (S.2.1 36) (S.2.1 37) (S.2.1 38) m 0 (S.1 3).toNat (-1)
def zEy (f h : Int) (T Y : zS) : Prop :=
  (∀ q, q ≠ 8 → Y.1 q = T.1 q) ∧ (∀ q, q ≠ 40 → q ≠ 41 → q ≠ 42 → q ≠ 47 → q ≠ 48 → q ≠ 55 → q ≠ 56 → q ≠ 57 → Y.2.1 q = T.2.1 q) ∧
  (∀ j : Int, 0 ≤ j → j < 20 → Y.2.1 40 j = if T.2.1 40 j = f then h else T.2.1 40 j) ∧ (∀ j : Int, Y.2.1 41 j = if j = f then 1 else T.2.1 41 j) ∧
  (∀ k : Int, 0 ≤ k → k < 200 → (Y.2.1 42 k = if T.2.1 42 k = f then h else T.2.1 42 k) ∧ (Y.2.1 47 k = if T.2.1 42 k = f then -1 else T.2.1 47 k)) ∧
  (∀ o : Int, 0 ≤ o → o < T.1 7 → Y.2.1 48 o = if T.2.1 48 o = 1 ∧ T.2.1 51 o = f then 3 else T.2.1 48 o) ∧
  (∀ j : Int, 0 ≤ j → 0 ≤ Y.2.1 57 j ∧ Y.2.1 57 j ≤ 6)
def zExy (X Y : zS) : Prop := X.1 2 = Y.1 8 ∧ ∀ j : Int, 0 ≤ j → j < X.1 2 → X.2.1 25 j = Y.2.1 55 j ∧ X.2.1 26 j = Y.2.1 56 j ∧ X.2.1 27 j = Y.2.1 57 j ∧ (0 ≤ X.2.1 26 j ∧ X.2.1 26 j < 200) ∧ (0 ≤ X.2.1 27 j ∧ X.2.1 27 j ≤ 6)
theorem ef_facts {n : Nat} {S T : zS} (h : zRel n S T) {f e : Int} (hfe : ¬ f = e) (he : 0 ≤ e ∧ e < 6) : zEx f e S (x_ef S (S.1 1).toNat f e) ∧ zEy f e T (y_ef T (S.1 1).toNat f e) ∧ zExy (x_ef S (S.1 1).toNat f e) (y_ef T (S.1 1).toNat f e) ∧ (x_ebl (z_sA S 9 f 1) f e 0 20).1 2 = S.1 2 + z_ct (zec f e S) 200 ∧ x_ebn (z_sA S 9 f 1) f e 0 20 = y_en2 (z_sA T 41 f 1) f e 0 200 := by
  have ho := h.ordr
  have ho2 := h.ord
  have J0 : zJ f e (z_sA S 9 f 1) (z_sA T 41 f 1) (z_sA S 9 f 1) (z_sA T 41 f 1) (10 * 0) := by
    refine ⟨⟨fun _ _ => rfl, fun _ _ _ _ _ _ _ => rfl⟩, ⟨fun _ _ => rfl, fun _ _ _ _ _ _ => rfl⟩, fun k => ?_, ⟨h.chg, Int.le_refl _⟩, h.cat, fun j _ _ => ⟨rfl, rfl⟩, h.to6⟩
    rw [if_neg (by omega), if_neg (by omega), if_neg (by omega), if_neg (by omega)]
    exact ⟨rfl, rfl, rfl, rfl⟩
  obtain ⟨J, jc, j8, jn⟩ := zJ.blocks (f := f) (h := e) (S := z_sA S 9 f 1) (T := z_sA T 41 f 1) h.now h.chgr hfe he (fun k x y => (h.serv k x y).1) (fun k x y => (h.hold k x y).1) 20 0 (z_sA S 9 f 1) (z_sA T 41 f 1) (by omega) J0 (fun j x => by rw [if_neg (by omega)]) (by rw [show z_ct (zec f e (z_sA S 9 f 1)) (10 * 0) = 0 from rfl]; exact (Int.add_zero _).symm)
  rw [show (10 * 0 : Nat) = 0 from rfl, show (10 * 20 : Nat) = 200 from rfl] at J jn
  have jc2 : (x_ebl (z_sA S 9 f 1) f e 0 20).1 2 = S.1 2 + z_ct (zec f e S) 200 := jc
  refine ⟨?_, ?_, ?_, jc2, jn⟩
  · obtain ⟨⟨a1, a2⟩, ⟨b1, b2⟩, c, d, q5, g, k⟩ := J
    unfold x_ef
    obtain ⟨g1, g2, g3, g4⟩ := x_cby_at (f := f) (S.1 1).toNat 0 (x_note (x_ebl (z_sA S 9 f 1) f e 0 20) 1 f e)
    have nr := fun m => note_rep (S := S) (U := x_ebl (z_sA S 9 f 1) f e 0 20) (bb := 1) (nn := f) (xx := e) (m := m) h.hisr.1 ((a2 36 (by omega) (by omega) (by omega) (by omega) (by omega) (by omega)).trans rfl) ((a2 37 (by omega) (by omega) (by omega) (by omega) (by omega) (by omega)).trans rfl) ((a2 38 (by omega) (by omega) (by omega) (by omega) (by omega) (by omega)).trans rfl) (a1 3 (by omega))
    generalize x_ebl (z_sA S 9 f 1) f e 0 20 = X1 at *
    have n1 : ∀ q, q ≠ 3 → (x_note X1 1 f e).1 q = X1.1 q := fun q hq => by
      unfold x_note
      rw [zv_sS, if_neg hq]
      rfl
    have n3 : (x_note X1 1 f e).1 3 = X1.1 3 + 1 := rfl
    have nA : ∀ q, q ≠ 36 → q ≠ 37 → q ≠ 38 → (x_note X1 1 f e).2.1 q = X1.2.1 q := fun q h1 h2 h3 => note_any h1 h2 h3
    generalize x_note X1 1 f e = X2 at *
    generalize x_cby X2 f 0 (S.1 1).toNat = X at *
    refine ⟨fun q q2 q3 => ?_, ?_, ?_, fun q h8 h9 h13 h18 h19 h25 h26 h27 h36 h37 h38 => ?_, fun j x y => ?_, fun j => ?_, fun k x y => ⟨?_, ?_⟩, fun o x y => ?_, fun j x y => ?_, fun m => ?_⟩
    · rw [g1, n1 q q3, a1 q q2]
      rfl
    · rw [g1, n3, a1 3 (by omega)]
      rfl
    · rw [g1, n1 2 (by omega)]
      exact jc2
    · rw [g3 q h19, nA q h36 h37 h38, a2 q h8 h13 h18 h25 h26 h27]
      funext j
      exact za_ne h9
    · rw [g3 8 (by omega), nA 8 (by omega) (by omega) (by omega), j8 j x y]
      rfl
    · rw [g3 9 (by omega), nA 9 (by omega) (by omega) (by omega), a2 9 (by omega) (by omega) (by omega) (by omega) (by omega) (by omega), za_sA]
      simp
    · rw [g3 13 (by omega), nA 13 (by omega) (by omega) (by omega), (c k).1]
      have w : (0 ≤ k ∧ k < ((200 : Nat) : Int)) := ⟨x, y⟩
      simp only [w, true_and, and_self]
      rfl
    · rw [g3 18 (by omega), nA 18 (by omega) (by omega) (by omega), (c k).2.1]
      have w : (0 ≤ k ∧ k < ((200 : Nat) : Int)) := ⟨x, y⟩
      simp only [w, true_and, and_self]
      rfl
    · rw [g4 o, nA 19 (by omega) (by omega) (by omega), nA 22 (by omega) (by omega) (by omega), a2 19 (by omega) (by omega) (by omega) (by omega) (by omega) (by omega), a2 22 (by omega) (by omega) (by omega) (by omega) (by omega) (by omega)]
      have w : (((0 : Nat) : Int) ≤ o ∧ o < ((0 + (S.1 1).toNat : Nat) : Int)) := by omega
      simp only [w, true_and, and_self]
      rfl
    · rw [g3 26 (by omega), nA 26 (by omega) (by omega) (by omega), g3 27 (by omega), nA 27 (by omega) (by omega) (by omega)]
      exact g j x y
    · rw [g3 36 (by omega), g3 37 (by omega), g3 38 (by omega), g1, nr m]
      simp
  · obtain ⟨⟨a1, a2⟩, ⟨b1, b2⟩, c, d, q5, g, k⟩ := J
    unfold y_ef
    obtain ⟨l1, l2, l3, l4⟩ := y_bl_at (f := f) (h := e) 20 0 (y_el (z_sA T 41 f 1) f e 0 200)
    obtain ⟨g1, g2, g3, g4⟩ := y_cl_at (f := f) (S.1 1).toNat 0 (x_fold (y_bl1 f e) 0 20 (y_el (z_sA T 41 f 1) f e 0 200))
    generalize x_fold (y_cl1 f) 0 (S.1 1).toNat (x_fold (y_bl1 f e) 0 20 (y_el (z_sA T 41 f 1) f e 0 200)) = Y at *
    generalize x_fold (y_bl1 f e) 0 20 (y_el (z_sA T 41 f 1) f e 0 200) = Y2 at *
    generalize y_el (z_sA T 41 f 1) f e 0 200 = Y1 at *
    refine ⟨fun q q8 => ?_, fun q h40 h41 h42 h47 h48 h55 h56 h57 => ?_, fun j x y => ?_, fun j => ?_, fun k x y => ⟨?_, ?_⟩, fun o x y => ?_, fun j x => ?_⟩
    · rw [g1, l1, b1 q q8]
      rfl
    · rw [g3 q h48, l3 q h40, b2 q h42 h47 h55 h56 h57]
      funext j
      exact za_ne h41
    · rw [g3 40 (by omega), l4 j, b2 40 (by omega) (by omega) (by omega) (by omega) (by omega)]
      have w : (((0 : Nat) : Int) ≤ j ∧ j < ((0 + 20 : Nat) : Int)) := by omega
      simp only [w, true_and, and_self]
      rfl
    · rw [g3 41 (by omega), l3 41 (by omega), b2 41 (by omega) (by omega) (by omega) (by omega) (by omega), za_sA]
      simp
    · rw [g3 42 (by omega), l3 42 (by omega), (c k).2.2.1]
      have w : (0 ≤ k ∧ k < ((200 : Nat) : Int)) := ⟨x, y⟩
      simp only [w, true_and, and_self]
      rfl
    · rw [g3 47 (by omega), l3 47 (by omega), (c k).2.2.2]
      have w : (0 ≤ k ∧ k < ((200 : Nat) : Int)) := ⟨x, y⟩
      simp only [w, true_and, and_self]
      rfl
    · rw [g4 o, l3 48 (by omega), l3 51 (by omega), b2 48 (by omega) (by omega) (by omega) (by omega) (by omega), b2 51 (by omega) (by omega) (by omega) (by omega) (by omega)]
      have w : (((0 : Nat) : Int) ≤ o ∧ o < ((0 + (S.1 1).toNat : Nat) : Int)) := by omega
      simp only [w, true_and, and_self]
      rfl
    · rw [g3 57 (by omega), l3 57 (by omega)]
      exact k j x
  · obtain ⟨-, -, -, d, q5, -, -⟩ := J
    unfold x_ef y_ef
    obtain ⟨g1, g2, g3, g4⟩ := x_cby_at (f := f) (S.1 1).toNat 0 (x_note (x_ebl (z_sA S 9 f 1) f e 0 20) 1 f e)
    obtain ⟨l1, l2, l3, l4⟩ := y_bl_at (f := f) (h := e) 20 0 (y_el (z_sA T 41 f 1) f e 0 200)
    obtain ⟨m1, m2, m3, m4⟩ := y_cl_at (f := f) (S.1 1).toNat 0 (x_fold (y_bl1 f e) 0 20 (y_el (z_sA T 41 f 1) f e 0 200))
    have n2 : ∀ X1 : zS, (x_note X1 1 f e).1 2 = X1.1 2 := fun _ => rfl
    refine ⟨by rw [g1, n2, m1, l1]; exact d.1, fun j x y => ?_⟩
    rw [g1, n2] at y
    rw [g3 25 (by omega), g3 26 (by omega), g3 27 (by omega), note_any (by omega) (by omega) (by omega), note_any (by omega) (by omega) (by omega), note_any (by omega) (by omega) (by omega), m3 55 (by omega), m3 56 (by omega), m3 57 (by omega), l3 55 (by omega), l3 56 (by omega), l3 57 (by omega)]
    exact q5 j x y
theorem rel_endFirm {n : Nat} {S T X Y : zS} (h : zRel n S T) {f e : Int} (hfe : ¬ f = e) (hf : 0 ≤ f ∧ f < 6) (he : 0 ≤ e ∧ e < 6) (g0 : S.2.1 9 f = 0) (g1 : S.2.1 9 e = 0) (x : zEx f e S X) (y : zEy f e T Y) (xy : zExy X Y) : zRel (n + 1) X Y := by
  obtain ⟨x1, x3, x2, xa, x8, x9, x13, x19, xp, xr⟩ := x
  obtain ⟨y1, ya, y40, y41, y42, y48, y57⟩ := y
  obtain ⟨c2, cc⟩ := xy
  have ho := h.ordr
  have ho2 := h.ord
  have cls : ∀ o : Int, 0 ≤ o → o < S.1 1 → (zdone (X.2.1 19) o.toNat = zdone (S.2.1 19) o.toNat ∧ zback (X.2.1 19) o.toNat = zback (S.2.1 19) o.toNat) := fun o a b => by
    have q := x19 o a b
    unfold zdone zback
    rw [show ((o.toNat : Nat) : Int) = o by omega, q]
    by_cases w : S.2.1 19 o = 1 ∧ S.2.1 22 o = f
    · rw [if_pos w, w.1]
      exact ⟨rfl, rfl⟩
    · rw [if_neg w]
      exact ⟨rfl, rfl⟩
  have ed : z_ct (zdone (X.2.1 19)) (X.1 1).toNat = z_ct (zdone (S.2.1 19)) (S.1 1).toNat := by
    rw [x1 1 (by omega) (by omega)]
    exact z_ct_cong (fun k hk => (cls k (by omega) (by omega)).1)
  have eb : z_ct (zback (X.2.1 19)) (X.1 1).toNat = z_ct (zback (S.2.1 19)) (S.1 1).toNat := by
    rw [x1 1 (by omega) (by omega)]
    exact z_ct_cong (fun k hk => (cls k (by omega) (by omega)).2)
  have eg : z_ct (zgone (X.2.1 9)) 6 = z_ct (zgone (S.2.1 9)) 6 + 1 := by
    refine z_ct_up (k := f.toNat) (by omega) (fun j hj hne => ?_) ?_ ?_
    · unfold zgone
      rw [x9, if_neg (by omega)]
    · unfold zgone
      rw [show ((f.toNat : Nat) : Int) = f by omega, g0]
      rfl
    · unfold zgone
      rw [show ((f.toNat : Nat) : Int) = f by omega, x9, if_pos rfl]
      rfl
  have aw : ∀ k : Nat, k < 200 → zaway (X.2.1 13) (X.2.1 8) k = true → zaway (S.2.1 13) (S.2.1 8) k = true := fun k hk w => by
    unfold zaway at w ⊢
    have w := of_decide_eq_true w
    rw [(x13 k (by omega) (by omega)).1, x8 ((k : Int) / 10) (by omega) (by omega)] at w
    refine decide_eq_true ?_
    by_cases p1 : S.2.1 13 k = f <;> by_cases p2 : S.2.1 8 ((k : Int) / 10) = f
    · rw [if_pos p1, if_pos p2] at w
      omega
    · omega
    · rw [if_neg p1] at w
      omega
    · rw [if_neg p1, if_neg p2] at w
      exact w
  have two : z_ct (zec f e S) 200 + z_ct (zaway (X.2.1 13) (X.2.1 8)) 200 ≤ 2 * z_ct (zaway (S.2.1 13) (S.2.1 8)) 200 := by
    refine z_ct_two (fun k hk => ?_)
    by_cases w1 : zaway (S.2.1 13) (S.2.1 8) k = true
    · rw [if_pos w1]
      split <;> split <;> omega
    · have w2 : ¬ zaway (X.2.1 13) (X.2.1 8) k = true := fun q => w1 (aw k hk q)
      have w3 : ¬ zec f e S k = true := fun q => w1 (by
        have q := of_decide_eq_true q
        have hs := h.serv k (by omega) (by omega)
        have hh := h.hold ((k : Int) / 10) (by omega) (by omega)
        exact decide_eq_true (by omega))
      rw [if_neg w2, if_neg w3]
      omega
  have a60 := h.away60
  refine ⟨?_, ?_, ?_, ?_, c2, ?_, ?_, ?_, ?_, ?_, ?_, ?_, ?_, ?_, ?_, ?_, ?_, ?_, ?_, ?_, cc, y57, ?_, ?_, ?_, ?_, ?_, ?_, ?_, ?_, ?_, ?_, ?_⟩
  · rw [x1 0 (by omega) (by omega), y1 6 (by omega)]
    exact h.now
  · rw [x1 0 (by omega) (by omega)]
    exact h.nowr
  · rw [x1 1 (by omega) (by omega), y1 7 (by omega)]
    exact h.ord
  · rw [x1 1 (by omega) (by omega)]
    exact h.ordr
  · have := h.chgr
    omega
  · intro b u v
    have q := h.hold b u v
    rw [x8 b u v, y40 b u v, ← q.1]
    by_cases w : S.2.1 8 b = f
    · rw [if_pos w]
      omega
    · rw [if_neg w]
      omega
  · intro b u v
    have q := h.gone b u v
    rw [x9 b, y41 b, ← q.1]
    by_cases w : b = f
    · rw [if_pos w]
      omega
    · rw [if_neg w]
      omega
  · rw [xa 10 (by omega) (by omega) (by omega) (by omega) (by omega) (by omega) (by omega) (by omega) (by omega) (by omega) (by omega), ya 60 (by omega) (by omega) (by omega) (by omega) (by omega) (by omega) (by omega) (by omega)]
    exact h.down
  · rw [xa 11 (by omega) (by omega) (by omega) (by omega) (by omega) (by omega) (by omega) (by omega) (by omega) (by omega) (by omega), ya 59 (by omega) (by omega) (by omega) (by omega) (by omega) (by omega) (by omega) (by omega)]
    exact h.lag
  · rw [xa 12 (by omega) (by omega) (by omega) (by omega) (by omega) (by omega) (by omega) (by omega) (by omega) (by omega) (by omega), ya 61 (by omega) (by omega) (by omega) (by omega) (by omega) (by omega) (by omega) (by omega)]
    exact h.acc
  · rw [xa 28 (by omega) (by omega) (by omega) (by omega) (by omega) (by omega) (by omega) (by omega) (by omega) (by omega) (by omega), ya 58 (by omega) (by omega) (by omega) (by omega) (by omega) (by omega) (by omega) (by omega)]
    intro b u v
    have q := h.lrn b u v
    omega
  · intro k u v
    have q := h.serv k u v
    rw [(x13 k u v).1, (y42 k u v).1, ← q.1]
    by_cases w : S.2.1 13 k = f
    · rw [if_pos w]
      omega
    · rw [if_neg w]
      omega
  · rw [xa 14 (by omega) (by omega) (by omega) (by omega) (by omega) (by omega) (by omega) (by omega) (by omega) (by omega) (by omega), ya 43 (by omega) (by omega) (by omega) (by omega) (by omega) (by omega) (by omega) (by omega)]
    exact h.secr
  · rw [xa 15 (by omega) (by omega) (by omega) (by omega) (by omega) (by omega) (by omega) (by omega) (by omega) (by omega) (by omega), ya 44 (by omega) (by omega) (by omega) (by omega) (by omega) (by omega) (by omega) (by omega)]
    exact h.quar
  · rw [xa 16 (by omega) (by omega) (by omega) (by omega) (by omega) (by omega) (by omega) (by omega) (by omega) (by omega) (by omega), ya 45 (by omega) (by omega) (by omega) (by omega) (by omega) (by omega) (by omega) (by omega)]
    exact h.sile
  · rw [xa 17 (by omega) (by omega) (by omega) (by omega) (by omega) (by omega) (by omega) (by omega) (by omega) (by omega) (by omega), ya 46 (by omega) (by omega) (by omega) (by omega) (by omega) (by omega) (by omega) (by omega)]
    exact h.call
  · intro k u v z
    have q := h.serv k u v
    rw [(x13 k u v).1] at z
    rw [(x13 k u v).2, (y42 k u v).2, ← q.1]
    by_cases w : S.2.1 13 k = f
    · rw [if_pos w, if_pos w]
    · rw [if_neg w] at z
      rw [if_neg w, if_neg w]
      exact h.last k u v z
  · intro k u v z
    rw [(x13 k u v).1] at z
    rw [(x13 k u v).2]
    by_cases w : S.2.1 13 k = f
    · rw [if_pos w]
    · rw [if_neg w] at z
      rw [if_neg w]
      exact h.lastn k u v z
  · intro k u v z
    rw [(x13 k u v).1] at z
    rw [x8 (k / 10) (by omega) (by omega)]
    have q : ¬ S.2.1 8 (k / 10) = -1 := h.held k u v (by
      by_cases w : S.2.1 13 k = f
      · omega
      · rw [if_neg w] at z
        exact z)
    by_cases w : S.2.1 8 (k / 10) = f
    · rw [if_pos w]
      omega
    · rw [if_neg w]
      exact q
  · intro o u v
    rw [x1 1 (by omega) (by omega)] at v
    have q := h.ords o u v
    rw [x19 o u v, y48 o u (by omega), ya 49 (by omega) (by omega) (by omega) (by omega) (by omega) (by omega) (by omega) (by omega), ya 50 (by omega) (by omega) (by omega) (by omega) (by omega) (by omega) (by omega) (by omega), ya 51 (by omega) (by omega) (by omega) (by omega) (by omega) (by omega) (by omega) (by omega), ya 52 (by omega) (by omega) (by omega) (by omega) (by omega) (by omega) (by omega) (by omega), ya 53 (by omega) (by omega) (by omega) (by omega) (by omega) (by omega) (by omega) (by omega), xa 20 (by omega) (by omega) (by omega) (by omega) (by omega) (by omega) (by omega) (by omega) (by omega) (by omega) (by omega), xa 21 (by omega) (by omega) (by omega) (by omega) (by omega) (by omega) (by omega) (by omega) (by omega) (by omega) (by omega), xa 22 (by omega) (by omega) (by omega) (by omega) (by omega) (by omega) (by omega) (by omega) (by omega) (by omega) (by omega), xa 23 (by omega) (by omega) (by omega) (by omega) (by omega) (by omega) (by omega) (by omega) (by omega) (by omega) (by omega), xa 24 (by omega) (by omega) (by omega) (by omega) (by omega) (by omega) (by omega) (by omega) (by omega) (by omega) (by omega)]
    refine ⟨?_, q.2⟩
    rw [← q.1, ← q.2.2.2.1]
  · intro o u v
    rw [x1 1 (by omega) (by omega)] at v
    rw [xa 21 (by omega) (by omega) (by omega) (by omega) (by omega) (by omega) (by omega) (by omega) (by omega) (by omega) (by omega), xa 22 (by omega) (by omega) (by omega) (by omega) (by omega) (by omega) (by omega) (by omega) (by omega) (by omega) (by omega), xa 24 (by omega) (by omega) (by omega) (by omega) (by omega) (by omega) (by omega) (by omega) (by omega) (by omega) (by omega)]
    exact h.ordv o u v
  · intro o u v z
    rw [x1 1 (by omega) (by omega)] at v
    have qv := h.ordv o u v
    rw [x19 o u v] at z
    rw [xa 21 (by omega) (by omega) (by omega) (by omega) (by omega) (by omega) (by omega) (by omega) (by omega) (by omega) (by omega), (x13 (S.2.1 21 o) qv.1.1 qv.1.2).1]
    by_cases w : S.2.1 19 o = 1 ∧ S.2.1 22 o = f
    · rw [if_pos w] at z
      omega
    · rw [if_neg w] at z
      have q := h.ordw o u v z
      by_cases w2 : S.2.1 13 (S.2.1 21 o) = f
      · rw [if_pos w2]
        omega
      · rw [if_neg w2]
        exact q
  · intro o u v z
    rw [x1 1 (by omega) (by omega)] at v
    rw [x19 o u v] at z
    rw [xa 23 (by omega) (by omega) (by omega) (by omega) (by omega) (by omega) (by omega) (by omega) (by omega) (by omega) (by omega), xa 24 (by omega) (by omega) (by omega) (by omega) (by omega) (by omega) (by omega) (by omega) (by omega) (by omega) (by omega), ya 54 (by omega) (by omega) (by omega) (by omega) (by omega) (by omega) (by omega) (by omega)]
    by_cases w : S.2.1 19 o = 1 ∧ S.2.1 22 o = f
    · rw [if_pos w] at z
      omega
    · rw [if_neg w] at z
      exact h.ordd o u v z
  · intro o p u v u2 v2 z z2 z3
    rw [x1 1 (by omega) (by omega)] at v v2
    rw [x19 o u v] at z
    rw [x19 p u2 v2] at z2
    rw [xa 21 (by omega) (by omega) (by omega) (by omega) (by omega) (by omega) (by omega) (by omega) (by omega) (by omega) (by omega)] at z3
    by_cases w : S.2.1 19 o = 1 ∧ S.2.1 22 o = f
    · rw [if_pos w] at z
      omega
    · rw [if_neg w] at z
      by_cases w2 : S.2.1 19 p = 1 ∧ S.2.1 22 p = f
      · rw [if_pos w2] at z2
        omega
      · rw [if_neg w2] at z2
        exact h.uniq o p u v u2 v2 z z2 z3
  · intro j k u v u2 v2
    have q := h.tab j k u v u2 v2
    have ql := h.lrn j u v
    rw [xa (30 + j.toNat) (by omega) (by omega) (by omega) (by omega) (by omega) (by omega) (by omega) (by omega) (by omega) (by omega) (by omega), xa 28 (by omega) (by omega) (by omega) (by omega) (by omega) (by omega) (by omega) (by omega) (by omega) (by omega) (by omega), q]
    refine zlast_cong _ (fun i a b => ?_)
    have := xp i a (by omega)
    exact ⟨this.1.symm, this.2.symm⟩
  · intro m u v
    rw [xr m, h.repl m u v, (x13 m u v).1]
    by_cases w : S.2.1 13 m = f
    · rw [if_pos w, if_pos w.symm]
    · rw [if_neg w, if_neg (fun z => w z.symm)]
  · rw [ed, x3]
    have := h.hisr
    omega
  · rw [ed, eb, eg, x2]
    have := h.phi
    omega
  · exact ⟨e, he.1, he.2, by rw [x9, if_neg (fun w => hfe w.symm)]; exact g1⟩
  · intro k b c
    obtain ⟨o, q1, q2, q3⟩ := h.awo k b (aw k b c)
    refine ⟨o, by rw [x1 1 (by omega) (by omega)]; exact q1, ?_, ?_⟩
    · have := (cls o (by omega) q1).1
      rw [show ((o : Int)).toNat = o by omega] at this
      rw [this]
      exact q2
    · rw [xa 21 (by omega) (by omega) (by omega) (by omega) (by omega) (by omega) (by omega) (by omega) (by omega) (by omega) (by omega)]
      exact q3
