/-! ===== steps that keep the relation: contracts, orders ===== -/
theorem rel_asg {S T : zS} (h : Rel S T) {i f : Int} (hi : 0 ≤ i ∧ i < 12) (hf : 0 ≤ f ∧ f < 6) (hs : S.2.1 13 (zdg i) = -1) (hh : ¬ S.2.1 8 (i / 3) = -1) : Rel (x_note (z_sA S 13 (zdg i) f) 0 (zdg i) f) (z_sA (z_sA T 40 i f) 41 i (-1)) := by
  refine ⟨h.now, h.nowr, h.ord, h.ordr, h.chg, h.chgr, h.hold, h.holdo, h.flag, h.firm, h.lrn, ?_, ?_, ?_, ?_, ?_, ?_, ?_, ?_, ?_, h.orv, h.ors, ?_, h.ordd, h.uniq, h.cat, ?_, ?_, h.trng, ?_, ?_⟩
  · intro j x y
    have q := h.serv j x y
    simp only [x_note, za_sS]
    rw [za_ne (k' := 13) (by omega), za_ne (k' := 13) (by omega), za_ne (k' := 13) (by omega), za_ne (k := 41) (by omega)]
    by_cases c : j = i
    · subst c
      rw [za_eq, za_eq]
      exact ⟨rfl, by omega⟩
    · rw [za_ni c, za_ni (fun e => c (zdg_inj ⟨x, y⟩ hi e))]
      exact q
  · intro j x y
    have q := h.secr j x y
    rw [za_ne (S := z_sA T 40 i f) (by omega), za_ni (show ¬ 12 + j = i by omega)]
    exact q
  · intro j x y
    have q := h.quar j x y
    rw [za_ne (S := z_sA T 40 i f) (by omega), za_ni (show ¬ 24 + j = i by omega)]
    exact q
  · intro j x y
    have q := h.sile j x y
    rw [za_ne (S := z_sA T 40 i f) (by omega), za_ni (show ¬ 36 + j = i by omega)]
    exact q
  · intro j x y
    have q := h.call j x y
    rw [za_ne (S := z_sA T 40 i f) (by omega), za_ni (show ¬ 48 + j = i by omega)]
    exact q
  · intro j x y g
    simp only [x_note, za_sS] at g
    rw [za_ne (by omega), za_ne (by omega), za_ne (by omega)] at g
    by_cases c : j = i
    · subst c
      rw [za_eq]
      exact (h.byn j x y hs).symm
    · rw [za_ni (fun e => c (zdg_inj ⟨x, y⟩ hi e))] at g
      rw [za_ni c]
      exact h.by j x y g
  · intro j x y g
    simp only [x_note, za_sS] at g
    rw [za_ne (by omega), za_ne (by omega), za_ne (by omega)] at g
    by_cases c : j = i
    · subst c
      rw [za_eq] at g
      omega
    · rw [za_ni (fun e => c (zdg_inj ⟨x, y⟩ hi e))] at g
      exact h.byn j x y g
  · intro j x y g
    simp only [x_note, za_sS] at g
    rw [za_ne (by omega), za_ne (by omega), za_ne (by omega)] at g
    by_cases c : j = i
    · subst c
      exact hh
    · rw [za_ni (fun e => c (zdg_inj ⟨x, y⟩ hi e))] at g
      exact h.held j x y g
  · intro m x y g
    have q := h.oth m x y g
    simp only [x_note, za_sS]
    rw [za_ne (k' := 13) (by omega), za_ne (k' := 13) (by omega), za_ne (k' := 13) (by omega), za_ni (g i hi.1 hi.2)]
    exact q
  · intro a x y g
    have q := h.orw a x y g
    simp only [x_note, za_sS]
    rw [za_ne (k' := 13) (by omega), za_ne (k' := 13) (by omega), za_ne (k' := 13) (by omega)]
    show ¬ (z_sA S 13 (zdg i) f).2.1 13 (S.2.1 21 a) = -1
    by_cases c : S.2.1 21 a = zdg i
    · rw [c, za_eq]
      omega
    · rw [za_ni c]
      exact q
  · intro g j x y z w
    have q := h.tab g j x y z w
    simp only [x_note, za_sS]
    rw [za_ne (by omega), za_ne (by omega), za_ne (by omega), za_ne (by omega)]
    exact q
  · intro g j x y z w
    have q := h.tabr g j x y z w
    simp only [x_note, za_sS]
    rw [za_ne (by omega), za_ne (by omega), za_ne (by omega), za_ne (by omega)]
    exact q
  · intro m x y
    have q := h.repl m x y
    rw [note_rep (S := S) (U := z_sA S 13 (zdg i) f) h.hisr rfl rfl rfl rfl, if_pos rfl, q]
    simp only [x_note, za_sS]
    rw [za_ne (by omega), za_ne (by omega), za_ne (by omega)]
    by_cases c : zdg i = m
    · rw [if_pos c, c, za_eq]
    · rw [if_neg c, za_ni (fun e => c e.symm)]
  · show 0 ≤ S.1 3 + 1
    have := h.hisr
    omega
theorem rel_off {S T : zS} (h : Rel S T) {i : Int} (hi : 0 ≤ i ∧ i < 12) (hw : ∀ a : Int, 0 ≤ a → a < S.1 1 → S.2.1 19 a = 1 → ¬ S.2.1 21 a = zdg i) : Rel (x_note (z_sA (z_sA S 13 (zdg i) (-1)) 18 (zdg i) (-1)) 0 (zdg i) (-1)) (z_sA T 40 i (-1)) := by
  refine ⟨h.now, h.nowr, h.ord, h.ordr, h.chg, h.chgr, h.hold, h.holdo, h.flag, h.firm, h.lrn, ?_, ?_, ?_, ?_, ?_, ?_, ?_, ?_, ?_, h.orv, h.ors, ?_, h.ordd, h.uniq, h.cat, ?_, ?_, h.trng, ?_, ?_⟩
  · intro j x y
    have q := h.serv j x y
    simp only [x_note, za_sS]
    rw [za_ne (k' := 13) (by omega), za_ne (k' := 13) (by omega), za_ne (k' := 13) (by omega), za_ne (k := 18) (by omega)]
    by_cases c : j = i
    · subst c
      rw [za_eq, za_eq]
      exact ⟨rfl, by omega⟩
    · rw [za_ni c, za_ni (fun e => c (zdg_inj ⟨x, y⟩ hi e))]
      exact q
  · intro j x y
    have q := h.secr j x y
    rw [za_ni (show ¬ 12 + j = i by omega)]
    exact q
  · intro j x y
    have q := h.quar j x y
    rw [za_ni (show ¬ 24 + j = i by omega)]
    exact q
  · intro j x y
    have q := h.sile j x y
    rw [za_ni (show ¬ 36 + j = i by omega)]
    exact q
  · intro j x y
    have q := h.call j x y
    rw [za_ni (show ¬ 48 + j = i by omega)]
    exact q
  · intro j x y g
    simp only [x_note, za_sS] at g
    rw [za_ne (by omega), za_ne (by omega), za_ne (by omega), za_ne (by omega)] at g
    simp only [x_note, za_sS]
    by_cases c : j = i
    · subst c
      rw [za_eq] at g
      exact absurd rfl g
    · rw [za_ni (fun e => c (zdg_inj ⟨x, y⟩ hi e))] at g
      rw [za_ne (k' := 18) (by omega), za_ne (k' := 18) (by omega), za_ne (k' := 18) (by omega), za_ni (fun e => c (zdg_inj ⟨x, y⟩ hi e)), za_ne (by omega)]
      exact h.by j x y g
  · intro j x y g
    simp only [x_note, za_sS] at g
    rw [za_ne (by omega), za_ne (by omega), za_ne (by omega), za_ne (by omega)] at g
    simp only [x_note, za_sS]
    by_cases c : j = i
    · subst c
      rw [za_ne (k' := 18) (by omega), za_ne (k' := 18) (by omega), za_ne (k' := 18) (by omega), za_eq]
    · rw [za_ni (fun e => c (zdg_inj ⟨x, y⟩ hi e))] at g
      rw [za_ne (k' := 18) (by omega), za_ne (k' := 18) (by omega), za_ne (k' := 18) (by omega), za_ni (fun e => c (zdg_inj ⟨x, y⟩ hi e)), za_ne (by omega)]
      exact h.byn j x y g
  · intro j x y g
    simp only [x_note, za_sS] at g
    rw [za_ne (by omega), za_ne (by omega), za_ne (by omega), za_ne (by omega)] at g
    by_cases c : j = i
    · subst c
      rw [za_eq] at g
      exact absurd rfl g
    · rw [za_ni (fun e => c (zdg_inj ⟨x, y⟩ hi e))] at g
      exact h.held j x y g
  · intro m x y g
    have q := h.oth m x y g
    simp only [x_note, za_sS]
    rw [za_ne (k' := 13) (by omega), za_ne (k' := 13) (by omega), za_ne (k' := 13) (by omega), za_ne (k' := 13) (by omega), za_ni (g i hi.1 hi.2)]
    exact q
  · intro a x y g
    have q := h.orw a x y g
    have qn := hw a x y g
    simp only [x_note, za_sS]
    rw [za_ne (k' := 13) (by omega), za_ne (k' := 13) (by omega), za_ne (k' := 13) (by omega), za_ne (k' := 13) (by omega)]
    show ¬ (z_sA S 13 (zdg i) (-1)).2.1 13 (S.2.1 21 a) = -1
    rw [za_ni qn]
    exact q
  · intro g j x y z w
    have q := h.tab g j x y z w
    simp only [x_note, za_sS]
    rw [za_ne (by omega), za_ne (by omega), za_ne (by omega), za_ne (by omega), za_ne (by omega)]
    exact q
  · intro g j x y z w
    have q := h.tabr g j x y z w
    simp only [x_note, za_sS]
    rw [za_ne (by omega), za_ne (by omega), za_ne (by omega), za_ne (by omega), za_ne (by omega)]
    exact q
  · intro m x y
    have q := h.repl m x y
    rw [note_rep (S := S) (U := z_sA (z_sA S 13 (zdg i) (-1)) 18 (zdg i) (-1)) h.hisr rfl rfl rfl rfl, if_pos rfl, q]
    simp only [x_note, za_sS]
    rw [za_ne (by omega), za_ne (by omega), za_ne (by omega), za_ne (by omega)]
    by_cases c : zdg i = m
    · rw [if_pos c, c, za_eq]
    · rw [if_neg c, za_ni (fun e => c e.symm)]
  · show 0 ≤ S.1 3 + 1
    have := h.hisr
    omega
theorem rel_ord {S T : zS} (h : Rel S T) {i f d m r w st : Int} (hi : 0 ≤ i ∧ i < 12) (hf : 0 ≤ f ∧ f < 6) (hd : -1 ≤ d ∧ d < 6) (hm : 0 ≤ m ∧ m ≤ 20000) (hr0 : 0 ≤ r ∧ r < 8) (hn : S.1 1 < 50) (hr : st = if r = 0 then 1 else 0) (hwd : w = st + r * 8 + i * 64 + f * 1024 + (d + 1) * 8192 + m * 65536) (hu : r = 0 → ¬ S.2.1 13 (zdg i) = -1) (hw : r = 0 → ∀ b : Int, 0 ≤ b → b < S.1 1 → S.2.1 19 b = 1 → ¬ S.2.1 21 b = zdg i) : Rel (x_oa S f (zdg i) d m r) (z_sA (z_sA (z_sA T 42 (T.2.1 47 1) w) 47 1 (T.2.1 47 1 + 1)) 43 (T.2.1 47 1) (-1)) := by
  have hst : st = 0 ∨ st = 1 := by
    rw [hr]
    split <;> omega
  refine ⟨h.now, h.nowr, (show T.2.1 47 1 + 1 = S.1 1 + 1 by have := h.ord; omega), (show 0 ≤ S.1 1 + 1 ∧ S.1 1 + 1 ≤ 50 by have := h.ordr; omega), h.chg, h.chgr, h.hold, h.holdo, h.flag, h.firm, h.lrn, h.serv, h.secr, h.quar, h.sile, h.call, h.by, h.byn, h.held, h.oth, ?_, ?_, ?_, ?_, ?_, h.cat, ?_, ?_, h.trng, h.repl, h.hisr⟩
  · intro b x y
    have y2 : b < S.1 1 + 1 := y
    have ec := h.ord
    rw [za_ne (k := 43) (by omega), za_ne (k := 47) (by omega)]
    by_cases c : b = S.1 1
    · rw [show b = T.2.1 47 1 by omega, za_eq]
      omega
    · rw [za_ni (by omega)]
      exact h.orv b x (by omega)
  · intro b x y
    have y2 : b < S.1 1 + 1 := y
    have ec := h.ord
    rw [za_ne (S := z_sA (z_sA T 42 (T.2.1 47 1) w) 47 1 (T.2.1 47 1 + 1)) (k := 43) (k' := 42) (by omega), za_ne (S := z_sA T 42 (T.2.1 47 1) w) (k := 47) (k' := 42) (by omega)]
    simp only [x_oa, za_sS, za_sA, zv_sA]
    by_cases c : b = S.1 1
    · have c2 : b = T.2.1 47 1 := by omega
      have e : w / 64 % 16 = i := by omega
      simp [c, c2, ec, e]
      subst hr
      by_cases r0 : r = 0
      · rw [if_pos r0]
        omega
      · rw [if_neg r0]
        omega
    · have c2 : ¬ b = T.2.1 47 1 := by omega
      have q := h.ors b x (by omega)
      simp [c, c2]
      exact q
  · intro b x y g
    have y2 : b < S.1 1 + 1 := y
    simp only [x_oa, za_sS, za_sA, zv_sA] at g ⊢
    by_cases c : b = S.1 1
    · simp [c] at g ⊢
      exact hu g
    · simp [c] at g ⊢
      exact h.orw b x (by omega) g
  · intro b x y g
    have y2 : b < S.1 1 + 1 := y
    have ec := h.ord
    simp only [x_oa, za_sS, za_sA, zv_sA] at g ⊢
    by_cases c : b = S.1 1
    · simp [c] at g
      omega
    · have c2 : ¬ b = T.2.1 47 1 := by omega
      simp [c, c2] at g ⊢
      exact h.ordd b x (by omega) g
  · intro a b x y x2 y2 g1 g2 g3
    have y3 : a < S.1 1 + 1 := y
    have y4 : b < S.1 1 + 1 := y2
    simp only [x_oa, za_sS, za_sA, zv_sA] at g1 g2 g3
    by_cases c : a = S.1 1
    · by_cases c2 : b = S.1 1
      · omega
      · simp [c] at g1 g3
        simp [c2] at g2 g3
        exact absurd g3.symm (hw g1 b x2 (by omega) g2)
    · by_cases c2 : b = S.1 1
      · simp [c2] at g2 g3
        simp [c] at g1 g3
        exact absurd g3 (hw g2 a x (by omega) g1)
      · simp [c] at g1 g3
        simp [c2] at g2 g3
        exact h.uniq a b x (by omega) x2 (by omega) g1 g2 g3
  · intro g j x y z w
    have q := h.tab g j x y z w
    simp only [x_oa, za_sS]
    rw [za_ne (by omega), za_ne (by omega), za_ne (by omega), za_ne (by omega), za_ne (by omega), za_ne (by omega)]
    exact q
  · intro g j x y z w
    have q := h.tabr g j x y z w
    simp only [x_oa, za_sS]
    rw [za_ne (by omega), za_ne (by omega), za_ne (by omega), za_ne (by omega), za_ne (by omega), za_ne (by omega)]
    exact q
theorem rel_asg2 {S T : zS} (h : Rel S T) {i t : Int} (hi : 0 ≤ i ∧ i < 12) (ht : 0 ≤ t ∧ t ≤ 1) (hs : S.2.1 13 (zdg i) = -1) (hh : ¬ S.2.1 8 (i / 3) = -1) : Rel (x_note (z_sA (z_sA S 13 (zdg i) (S.2.1 8 (zdg i / 10))) 14 (zdg i) t) 0 (zdg i) (S.2.1 8 (zdg i / 10))) (z_sA (z_sA (z_sA T 40 i (T.2.1 7 (i / 3))) 40 (12 + i) t) 41 i (-1)) := by
  have hd := zdg_rng hi
  have hb := h.hold (i / 3) (by omega) (by omega)
  rw [hd.2.2, hb.1]
  have r1 := rel_secr (rel_asg h (f := S.2.1 8 (i / 3)) hi (by omega) hs hh) hi ht
  refine (r1.cls ?_).law ?_
  · refine ⟨fun q _ => rfl, fun k _ _ _ => funext fun j => ?_⟩
    simp only [x_note, za_sA, za_sS, zv_sA, zv_sS]
    by_cases c : k = 14
    · subst c
      simp
    · simp [c]
  · refine ⟨fun k _ => funext fun j => ?_, rfl⟩
    simp only [za_sA]
    by_cases c : k = 41
    · subst c
      simp
    · simp [c]
theorem z_first_none {p : Nat → Bool} : ∀ (k i : Nat), z_first p i k = none → ∀ j, i ≤ j → j < i + k → p j = false
  | 0, _, _, j, a, b => absurd b (by omega)
  | k + 1, i, h, j, a, b => by
    rw [z_first] at h
    by_cases e : p i = true
    · rw [if_pos e] at h; cases h
    · rw [if_neg e] at h
      by_cases hj : j = i
      · subst hj; simpa using e
      · exact z_first_none k (i + 1) h j (by omega) (by omega)
theorem z_first_some {p : Nat → Bool} : ∀ (k i r : Nat), z_first p i k = some r → (i ≤ r ∧ r < i + k) ∧ p r = true
  | 0, _, _, h => nomatch h
  | k + 1, i, r, h => by
    rw [z_first] at h
    by_cases e : p i = true
    · rw [if_pos e] at h
      cases h
      exact ⟨⟨Nat.le_refl _, by omega⟩, e⟩
    · rw [if_neg e] at h
      have := z_first_some k (i + 1) r h
      exact ⟨⟨by omega, by omega⟩, this.2⟩
/-- the order that waits for a number, cancelled -/
def y_cf (T : zS) (i : Int) (c : Nat) : zS := match y_wt T i c with
  | some k => z_sA T 42 k (T.2.1 42 k + 2)
  | none => T
theorem rel_cf {S T : zS} (h : Rel S T) {i : Int} (hi : 0 ≤ i ∧ i < 12) : Rel (x_cf S (zdg i) (S.1 1).toNat) (y_cf T i (S.1 1).toNat) ∧ ∀ a : Int, 0 ≤ a → a < S.1 1 → (x_cf S (zdg i) (S.1 1).toNat).2.1 19 a = 1 → ¬ S.2.1 21 a = zdg i := by
  have ho := h.ordr
  have hw := h.wt hi
  unfold x_cf y_cf
  rw [← hw]
  cases e : x_wf S (zdg i) (S.1 1).toNat with
  | none =>
    refine ⟨h, fun a x y g e2 => ?_⟩
    have := z_first_none _ _ e a.toNat (by omega) (by omega)
    rw [show ((a.toNat : Nat) : Int) = a by omega] at this
    exact absurd ⟨g, e2⟩ (of_decide_eq_false this)
  | some k =>
    have hk := z_first_some _ _ _ e
    have hp := of_decide_eq_true hk.2
    refine ⟨rel_canc h (by omega) hp.1, fun a x y g e2 => ?_⟩
    by_cases c : a = k
    · subst c
      have g2 : (z_sA S 19 (k : Int) 3).2.1 19 (k : Int) = 1 := g
      rw [za_eq] at g2
      omega
    · have g2 : (z_sA S 19 (k : Int) 3).2.1 19 a = 1 := g
      rw [za_ni c] at g2
      exact c (h.uniq a k x y (by omega) (by omega) g2 hp.1 (by rw [e2, hp.2]))
/-- a contract ends: the law's rows, but the order -/
def y_fin (T : zS) (i : Int) : zS := z_sA (z_sA (z_sA (z_sA T 40 i (-1)) 40 (24 + i) (T.2.1 47 0 + 99)) 40 (36 + i) (-1)) 40 (48 + i) (-1)
theorem rel_fin {S T : zS} (h : Rel S T) {i : Int} (hi : 0 ≤ i ∧ i < 12) (hw : ∀ a : Int, 0 ≤ a → a < S.1 1 → S.2.1 19 a = 1 → ¬ S.2.1 21 a = zdg i) : Rel (x_note (x_fin S (zdg i) (S.1 0)) 0 (zdg i) (-1)) (y_fin T i) := by
  have hn := h.now
  have r1 := rel_call (rel_sile (rel_quar (rel_off h hi hw) hi (v := S.1 0 + 99)) hi (v := -1)) hi (v := -1)
  unfold y_fin
  rw [hn]
  refine r1.cls ⟨fun q _ => rfl, fun k _ _ _ => funext fun j => ?_⟩
  simp only [x_note, x_fin, za_sA, za_sS, zv_sA, zv_sS]
  by_cases c1 : k = 15
  · subst c1
    simp
  · by_cases c2 : k = 16
    · subst c2
      simp
    · by_cases c3 : k = 17
      · subst c3
        simp
      · simp [c1, c2, c3]
/-- a contract ends -/
def y_en (T : zS) (i : Int) (c : Nat) : zS := y_cf (y_fin (if T.2.1 40 i = T.2.1 7 (i / 3) then T else z_sA (z_sA T 47 2 (T.2.1 47 2 + 1)) 44 (T.2.1 47 2) (T.2.1 47 0 + i * 16384 + 6 * 262144)) i) i c
theorem x_wf_cong {S U : zS} (e1 : U.2.1 19 = S.2.1 19) (e2 : U.2.1 21 = S.2.1 21) {n : Int} {c : Nat} : x_wf U n c = x_wf S n c := by
  unfold x_wf
  rw [e1, e2]
theorem y_wt_cong {S U : zS} (e1 : U.2.1 42 = S.2.1 42) {n : Int} {c : Nat} : y_wt U n c = y_wt S n c := by
  unfold y_wt
  rw [e1]
theorem rel_en {S T : zS} (h : Rel S T) {i : Int} (hi : 0 ≤ i ∧ i < 12) : Rel (x_en S (zdg i) (S.1 1).toNat) (y_en T i (S.1 1).toNat) := by
  have hd := zdg_rng hi
  have hb := h.hold (i / 3) (by omega) (by omega)
  have hs := h.serv i hi.1 hi.2
  obtain ⟨r1, w1⟩ := rel_cf h hi
  have f1 := (x_cf_fr (S := S) (n := zdg i) (c := (S.1 1).toNat))
  have r2 := rel_fin r1 hi (fun a x y g => by
    rw [f1.2.1 21 a (by omega)]
    exact w1 a x (by rw [f1.1] at y; exact y) g)
  have hX : x_cf (x_note (x_fin S (zdg i) (S.1 0)) 0 (zdg i) (-1)) (zdg i) (S.1 1).toNat = x_note (x_fin (x_cf S (zdg i) (S.1 1).toNat) (zdg i) ((x_cf S (zdg i) (S.1 1).toNat).1 0)) 0 (zdg i) (-1) := by
    rw [f1.1]
    unfold x_cf
    rw [x_wf_cong (S := S) (U := x_note (x_fin S (zdg i) (S.1 0)) 0 (zdg i) (-1)) rfl rfl]
    cases x_wf S (zdg i) (S.1 1).toNat with
    | none => rfl
    | some k =>
      refine Prod.ext rfl (Prod.ext (funext fun q => funext fun j => ?_) rfl)
      simp only [x_note, x_fin, za_sA, za_sS, zv_sA, zv_sS]
      by_cases c : q = 19
      · subst c
        simp
      · simp [c]
  unfold x_en y_en
  rw [hX, hd.2.2, hs.1, hb.1]
  by_cases c : S.2.1 13 (zdg i) = S.2.1 8 (i / 3)
  · rw [if_pos c, if_pos c]
    refine r2.law ?_
    unfold y_cf
    rw [y_wt_cong (S := T) (U := y_fin T i) rfl]
    cases y_wt T i (S.1 1).toNat with
    | none => exact zlw.rf
    | some k =>
      refine ⟨fun q _ => funext fun j => ?_, rfl⟩
      simp only [y_fin, za_sA]
      by_cases c : q = 42
      · subst c
        simp
      · simp [c]
  · rw [if_neg c, if_neg c]
    have r3 := rel_chg r2 (i := i) (p := 6) hi (by omega)
    have e0 : (x_note (x_fin (x_cf S (zdg i) (S.1 1).toNat) (zdg i) ((x_cf S (zdg i) (S.1 1).toNat).1 0)) 0 (zdg i) (-1)).1 0 = S.1 0 := by
      show (x_cf S (zdg i) (S.1 1).toNat).1 0 = S.1 0
      rw [f1.1]
    rw [e0] at r3
    refine r3.law ?_
    unfold y_cf
    rw [y_wt_cong (S := T) (U := y_fin (z_sA (z_sA T 47 2 (T.2.1 47 2 + 1)) 44 (T.2.1 47 2) (T.2.1 47 0 + i * 16384 + 6 * 262144)) i) rfl]
    cases y_wt T i (S.1 1).toNat with
    | none =>
      refine ⟨fun q _ => funext fun j => ?_, rfl⟩
      simp only [y_fin, za_sA]
      by_cases c1 : q = 47
      · subst c1
        simp
      · by_cases c2 : q = 44
        · subst c2
          simp
        · simp [c1, c2]
    | some k =>
      refine ⟨fun q _ => funext fun j => ?_, rfl⟩
      simp only [y_fin, za_sA]
      by_cases c1 : q = 47
      · subst c1
        simp
      · by_cases c2 : q = 44
        · subst c2
          simp
        · by_cases c3 : q = 42
          · subst c3
            simp
          · simp [c1, c2, c3]
/-- n turns are behind -/
abbrev zInv (n : Nat) (S : zS) : Prop := Rel S S ∧ (∀ f : Int, 0 ≤ f → f < 6 → -(8 * (n : Int) + 5 * S.1 2) ≤ S.2.1 12 f ∧ S.2.1 12 f ≤ 8 * (n : Int) + 5 * S.1 2) ∧ S.1 3 ≤ (n : Int) + S.1 2 ∧ S.1 2 ≤ 60
theorem zInv.ab {n : Nat} {S : zS} (h : zInv n S) (hn : n ≤ 151) : zAb S := fun f a b => by
  have h1 := h.2.1 f a b
  have h2 := h.2.2.2
  omega
theorem zInv.next {n : Nat} {S U : zS} (h : zInv n S) (r : Rel U U) (e1 : S.1 2 ≤ U.1 2) (e2 : U.1 3 ≤ S.1 3 + 1 + (U.1 2 - S.1 2)) (e3 : U.2.1 12 = S.2.1 12) (e4 : U.1 2 ≤ 60) : zInv (n + 1) U := by
  refine ⟨r, fun f a b => ?_, ?_, e4⟩
  · have := h.2.1 f a b
    rw [e3]
    omega
  · have := h.2.2.1
    omega
theorem zInv.same {n : Nat} {S : zS} (h : zInv n S) : zInv (n + 1) S := h.next h.1 (Int.le_refl _) (by omega) rfl h.2.2.2
