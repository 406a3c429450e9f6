/-! ===== accounts; orders turned back ===== -/
theorem Rel.money {S S' T T' : zS} (h : Rel S T) (e1 : ∀ i, i ≠ 4 → S'.1 i = S.1 i) (e2 : ∀ k, 8 ≤ k → k < 40 → k ≠ 12 → k ≠ 39 → S'.2.1 k = S.2.1 k) (e3 : ∀ k, k = 7 ∨ 40 ≤ k → k ≠ 46 → T'.2.1 k = T.2.1 k) (e4 : T'.2.2 = T.2.2) (hm : ∀ f : Int, 0 ≤ f → f < 6 → T'.2.1 46 f - T.2.1 46 f = (S'.2.1 12 f - S.2.1 12 f) * 1024) : Rel S' T' := by
  have e8 := e2 8 (by omega) (by omega) (by omega) (by omega)
  have e9 := e2 9 (by omega) (by omega) (by omega) (by omega)
  have e10 := e2 10 (by omega) (by omega) (by omega) (by omega)
  have e11 := e2 11 (by omega) (by omega) (by omega) (by omega)
  have e13 := e2 13 (by omega) (by omega) (by omega) (by omega)
  have e14 := e2 14 (by omega) (by omega) (by omega) (by omega)
  have e15 := e2 15 (by omega) (by omega) (by omega) (by omega)
  have e16 := e2 16 (by omega) (by omega) (by omega) (by omega)
  have e17 := e2 17 (by omega) (by omega) (by omega) (by omega)
  have e18 := e2 18 (by omega) (by omega) (by omega) (by omega)
  have e19 := e2 19 (by omega) (by omega) (by omega) (by omega)
  have e20 := e2 20 (by omega) (by omega) (by omega) (by omega)
  have e21 := e2 21 (by omega) (by omega) (by omega) (by omega)
  have e22 := e2 22 (by omega) (by omega) (by omega) (by omega)
  have e23 := e2 23 (by omega) (by omega) (by omega) (by omega)
  have e24 := e2 24 (by omega) (by omega) (by omega) (by omega)
  have e25 := e2 25 (by omega) (by omega) (by omega) (by omega)
  have e26 := e2 26 (by omega) (by omega) (by omega) (by omega)
  have e27 := e2 27 (by omega) (by omega) (by omega) (by omega)
  have e28 := e2 28 (by omega) (by omega) (by omega) (by omega)
  have e36 := e2 36 (by omega) (by omega) (by omega) (by omega)
  have e37 := e2 37 (by omega) (by omega) (by omega) (by omega)
  have e38 := e2 38 (by omega) (by omega) (by omega) (by omega)
  have s0 := e1 0 (by omega)
  have s1 := e1 1 (by omega)
  have s2 := e1 2 (by omega)
  have s3 := e1 3 (by omega)
  have e7 := e3 7 (by omega) (by omega)
  have e40 := e3 40 (by omega) (by omega)
  have e41 := e3 41 (by omega) (by omega)
  have e42 := e3 42 (by omega) (by omega)
  have e43 := e3 43 (by omega) (by omega)
  have e44 := e3 44 (by omega) (by omega)
  have e45 := e3 45 (by omega) (by omega)
  have e47 := e3 47 (by omega) (by omega)
  have g : ∀ f : Int, 0 ≤ f → f < 6 → S'.2.1 (30 + f.toNat) = S.2.1 (30 + f.toNat) := fun f a b => e2 _ (by omega) (by omega) (by omega) (by omega)
  refine ⟨?_, ?_, ?_, ?_, ?_, ?_, ?_, ?_, ?_, ?_, ?_, ?_, ?_, ?_, ?_, ?_, ?_, ?_, ?_, ?_, ?_, ?_, ?_, ?_, ?_, ?_, ?_, ?_, ?_, ?_, ?_⟩
  · rw [e47, s0]; exact h.now
  · rw [s0]; exact h.nowr
  · rw [e47, s1]; exact h.ord
  · rw [s1]; exact h.ordr
  · rw [e47, s2]; exact h.chg
  · rw [s2]; exact h.chgr
  · rw [e8, e7]; exact h.hold
  · rw [e8]; exact h.holdo
  · rw [e9, e10, e11]; exact h.flag
  · intro f a b
    have q := h.firm f a b
    have m := hm f a b
    rw [e9, e10, e11]
    omega
  · rw [e28, e45, s2]; exact h.lrn
  · rw [e13, e40]; exact h.serv
  · rw [e14, e40]; exact h.secr
  · rw [e15, e40]; exact h.quar
  · rw [e16, e40]; exact h.sile
  · rw [e17, e40]; exact h.call
  · rw [e13, e18, e41]; exact h.by
  · rw [e13, e18]; exact h.byn
  · rw [e8, e13]; exact h.held
  · rw [e13, e15]; exact h.oth
  · rw [e42, s1]; exact h.orv
  · rw [e19, e20, e21, e22, e23, e24, e42, s1]; exact h.ors
  · rw [e13, e19, e21, s1]; exact h.orw
  · rw [e19, e23, e24, e43, s1]; exact h.ordd
  · rw [e19, e21, s1]; exact h.uniq
  · rw [e25, e26, e27, e44, s2]; exact h.cat
  · exact fun f i a b c d => by rw [g f a b, e4]; exact h.tab f i a b c d
  · exact fun f m a b c d => by rw [g f a b]; exact h.tabr f m a b c d
  · rw [e4]; exact h.trng
  · rw [e13, e36, e37, e38, s3]; exact h.repl
  · rw [s3]; exact h.hisr
theorem z_wr_of {x : Int} (h : -2147483648 ≤ x ∧ x < 2147483648) : z_wr x = x := z_bmod h
def z1 (p : Prop) [Decidable p] (m : Int) : Int := if p then m else 0
theorem x_pay_acc {S : zS} (hb : zAb S) {p t m f : Int} (hp : 0 ≤ p ∧ p < 6) (ht : 0 ≤ t ∧ t < 6) (hm : 0 ≤ m ∧ m ≤ 5) : (x_pay S p t m).2.1 12 f = S.2.1 12 f - z1 (f = p) m + z1 (f = t) m := by
  have b1 := hb p hp.1 hp.2
  have b2 := hb t ht.1 ht.2
  unfold x_pay z1
  rw [z_wr_of (x := S.2.1 12 p - m) (by omega), z_wr_of (x := (z_sA S 12 p (S.2.1 12 p - m)).2.1 12 t + m) (by
    rw [za_sA]
    split <;> omega)]
  by_cases c1 : f = t
  · rw [if_pos c1, c1, za_eq]
    by_cases c2 : t = p
    · rw [c2, za_eq, if_pos rfl]
    · rw [za_ni c2, if_neg c2]
      omega
  · rw [if_neg c1, za_ni c1]
    by_cases c2 : f = p
    · rw [c2, za_eq, if_pos rfl]
      omega
    · rw [za_ni c2, if_neg c2]
      omega
theorem x_pay_ne {S : zS} {p t m : Int} : (x_pay S p t m).1 = S.1 ∧ (∀ k, k ≠ 12 → (x_pay S p t m).2.1 k = S.2.1 k) ∧ (x_pay S p t m).2.2 = S.2.2 := ⟨rfl, fun k hk => funext fun j => by unfold x_pay; rw [za_ne hk, za_ne hk], rfl⟩
def y_pay (T : zS) (p t k : Int) : zS := z_sA (z_sA T 46 p (T.2.1 46 p - k)) 46 t ((z_sA T 46 p (T.2.1 46 p - k)).2.1 46 t + k)
theorem y_pay_acc {T : zS} {p t k f : Int} : (y_pay T p t k).2.1 46 f = T.2.1 46 f - z1 (f = p) k + z1 (f = t) k := by
  unfold y_pay z1
  by_cases c1 : f = t
  · rw [if_pos c1, c1, za_eq]
    by_cases c2 : t = p
    · rw [c2, za_eq, if_pos rfl]
    · rw [za_ni c2, if_neg c2]
      omega
  · rw [if_neg c1, za_ni c1]
    by_cases c2 : f = p
    · rw [c2, za_eq, if_pos rfl]
      omega
    · rw [za_ni c2, if_neg c2]
      omega
theorem y_pay_ne {T : zS} {p t k : Int} : (∀ q, q ≠ 46 → (y_pay T p t k).2.1 q = T.2.1 q) ∧ (y_pay T p t k).2.2 = T.2.2 ∧ (y_pay T p t k).1 = T.1 := ⟨fun q hq => funext fun j => by unfold y_pay; rw [za_ne hq, za_ne hq], rfl, rfl⟩
theorem z1_mul {p : Prop} [Decidable p] {m k : Int} (h : k = m * 1024) : z1 p k = z1 p m * 1024 := by
  unfold z1
  split
  · exact h
  · rfl
theorem rel_pay {S T : zS} (h : Rel S T) (hb : zAb S) {p t m k : Int} (hp : 0 ≤ p ∧ p < 6) (ht : 0 ≤ t ∧ t < 6) (hm : 0 ≤ m ∧ m ≤ 5) (hk : k = m * 1024) : Rel (x_pay S p t m) (y_pay T p t k) := by
  refine h.money (fun i _ => rfl) (fun q _ _ a _ => x_pay_ne.2.1 q a) (fun q _ a => y_pay_ne.1 q a) y_pay_ne.2.1 (fun f a b => ?_)
  rw [x_pay_acc hb hp ht hm, y_pay_acc, z1_mul hk, z1_mul hk]
  omega
theorem rel_rv {S T : zS} (h : Rel S T) (hb : zAb S) {o i d w : Int} (ho : 0 ≤ o ∧ o < S.1 1) (h2 : S.2.1 19 o = 2) (hi : 0 ≤ i ∧ i < 12) (hd : 0 ≤ d ∧ d < 6) (hw : 0 ≤ w ∧ w < 6) (ei : S.2.1 21 o = zdg i) (ed : S.2.1 23 o = d) (ew : S.2.1 22 o = w) (hs : ¬ S.2.1 13 (zdg i) = -1) : Rel (x_rv S o) (y_gt (y_pay (z_sA T 42 o (T.2.1 42 o + 2)) d w 5120) i d) := by
  have r1 := rel_back h ho h2
  have r2 := rel_pay r1 (p := d) (t := w) (m := 5) (k := 5120) hb hd hw (by omega) (by omega)
  have r3 := rel_mv r2 (i := i) (f := d) hi hd (by rw [x_pay_ne.2.1 13 (by omega)]; exact hs)
  unfold x_rv
  rw [ei, ed, ew]
  refine r3.cls ⟨fun q _ => rfl, fun k _ _ _ => funext fun j => ?_⟩
  by_cases c : k = 12
  · subst c
    simp [x_mv, x_chg, x_note, x_pay, za_sA, za_sS]
  · simp [x_mv, x_chg, x_note, x_pay, za_sA, za_sS, zv_sA, zv_sS, c]
section
variable {S : zS}
theorem c_rev_hd (h : Rel S S) : ∀ o : Int, 0 ≤ o → o < S.1 1 → (0 ≤ S.2.1 21 o ∧ S.2.1 21 o < 200) ∧ (0 ≤ S.2.1 22 o ∧ S.2.1 22 o < 6) ∧ (0 ≤ S.2.1 24 o ∧ S.2.1 24 o ≤ 20000) ∧ (S.2.1 19 o = 2 → 0 ≤ S.2.1 23 o ∧ S.2.1 23 o < 6) := by
  intro o a b
  have qv := h.orv o a b
  have qs := h.ors o a b
  have qd := h.ordd o a b
  have hd := zdg_rng (i := S.2.1 42 o / 64 % 16) (by omega)
  exact ⟨by omega, by omega, by omega, fun e => (qd e).2.1⟩
theorem q_rev_ok (h : Rel S S) (h2 : S.1 2 < 600) (h3 : S.1 3 < 572) {o : Int} (ho : 0 ≤ o ∧ o < S.1 1) (hc : S.2.1 19 o = 2 ∧ S.1 0 - S.2.1 24 o ≤ 60 ∧ ¬ S.2.1 13 (S.2.1 21 o) = -1 ∧ S.2.1 9 (S.2.1 23 o) = 0 ∧ S.2.1 18 (S.2.1 21 o) = o) : z_FnW mL_reverse [zR 0, zI o] S (zI (S.2.1 23 o)) (x_rv S o) := by
  have hor := h.ordr
  have e : o_reverse S o = (zI? (S.2.1 23 o), x_rv S o) := by
    unfold o_reverse
    exact (if_neg (by omega)).trans (if_neg (fun q => q hc))
  exact w_ok (w_reverse (c_reverse (by omega) h.nowr ⟨h.chgr, h2⟩ ⟨h.hisr, h3⟩ (c_rev_hd h)) (z_shk e)) e
theorem q_rev_ex (h : Rel S S) (h2 : S.1 2 < 600) (h3 : S.1 3 < 572) {o : Int} (ho : 0 ≤ o ∧ o < S.1 1) (hc : ¬ (S.2.1 19 o = 2 ∧ S.1 0 - S.2.1 24 o ≤ 60 ∧ ¬ S.2.1 13 (S.2.1 21 o) = -1 ∧ S.2.1 9 (S.2.1 23 o) = 0 ∧ S.2.1 18 (S.2.1 21 o) = o)) : z_FnW mL_reverse [zR 0, zI o] S (zI (-7300)) S := by
  have hor := h.ordr
  have e : o_reverse S o = (.error xS, S) := by
    unfold o_reverse
    exact (if_neg (by omega)).trans (if_pos hc)
  exact w_er (w_reverse (c_reverse (by omega) h.nowr ⟨h.chgr, h2⟩ ⟨h.hisr, h3⟩ (c_rev_hd h)) (z_she e (by decide +kernel))) e (by decide +kernel)
theorem zlw_mv {U : zS} {n f : Int} : zlw (x_mv U n f) U := zlw_chg (zlw_note (zlw_c zlw.rf (by omega)))
theorem zlw_pay {U : zS} {p t m : Int} : zlw (x_pay U p t m) U := zlw_c (zlw_c zlw.rf (by omega)) (by omega)
theorem zlw_rv {U : zS} {o : Int} : zlw (x_rv U o) U := zlw_pay.tr (zlw_mv.tr (zlw_c zlw.rf (by omega)))
theorem zInv.rv {n : Nat} (h : zInv n S) (hn : n < 150) {o : Int} {Y : zS} (hd : 0 ≤ S.2.1 23 o ∧ S.2.1 23 o < 6) (hw : 0 ≤ S.2.1 22 o ∧ S.2.1 22 o < 6) (hg : S.1 2 < 60) (hR : Rel Y Y) (e1 : Y.1 = (x_rv S o).1) (e12 : Y.2.1 12 = (x_rv S o).2.1 12) : zInv n Y := by
  have hb := h.ab (by omega)
  have s2 : (x_rv S o).1 2 = S.1 2 + 1 := rfl
  have s3 : (x_rv S o).1 3 = S.1 3 + 1 := rfl
  have ha : ∀ f, (x_rv S o).2.1 12 f = S.2.1 12 f - z1 (f = S.2.1 23 o) 5 + z1 (f = S.2.1 22 o) 5 := fun f => x_pay_acc (S := x_mv (z_sA S 19 o 4) (S.2.1 21 o) (S.2.1 23 o)) hb hd hw (by omega)
  refine ⟨hR, fun f a b => ?_, ?_, ?_⟩
  · have q := h.2.1 f a b
    rw [e12, e1, s2, ha f]
    unfold z1
    split <;> split <;> omega
  · have q := h.2.2.1
    rw [e1, s2, s3]
    omega
  · rw [e1, s2]
    omega
end
