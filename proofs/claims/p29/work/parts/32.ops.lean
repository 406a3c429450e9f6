/-! ===== steps that keep the relation ===== -/
theorem zdg_inj {i j : Int} (hi : 0 ≤ i ∧ i < 12) (hj : 0 ≤ j ∧ j < 12) (h : zdg i = zdg j) : i = j := by
  unfold zdg at h
  omega
theorem zdg_rng {i : Int} (hi : 0 ≤ i ∧ i < 12) : 0 ≤ zdg i ∧ zdg i < 200 ∧ zdg i / 10 = i / 3 := by
  unfold zdg
  omega
theorem za_id {S : zS} {k : Nat} {i : Int} : z_sA S k i (S.2.1 k i) = S := by
  have e : (fun k' j => if k' = k ∧ j = i then S.2.1 k i else S.2.1 k' j) = S.2.1 := by
    funext k' j
    split
    · next h => rw [h.1, h.2]
    · rfl
  show (S.1, (fun k' j => if k' = k ∧ j = i then S.2.1 k i else S.2.1 k' j), S.2.2) = S
  rw [e]
theorem rel_call {S T : zS} (h : Rel S T) {i v : Int} (hi : 0 ≤ i ∧ i < 12) : Rel (z_sA S 17 (zdg i) v) (z_sA T 40 (48 + i) v) := by
  refine ⟨h.now, h.nowr, h.ord, h.ordr, h.chg, h.chgr, h.hold, h.holdo, h.flag, h.firm, h.lrn, ?_, ?_, ?_, ?_, ?_, h.by, h.byn, h.held, h.oth, h.orv, h.ors, h.orw, h.ordd, h.uniq, h.cat, (fun f i x y z w => by have q := h.tab f i x y z w; (repeat (first | rw [za_ne (k' := 30 + f.toNat) (by omega)] at q | rw [za_sS] at q)); (repeat (first | rw [za_ne (k' := 30 + f.toNat) (by omega)] | rw [za_sS])); exact q), (fun f m x y z w => by have q := h.tabr f m x y z w; (repeat (first | rw [za_ne (k' := 30 + f.toNat) (by omega)] at q | rw [za_sS] at q)); (repeat (first | rw [za_ne (k' := 30 + f.toNat) (by omega)] | rw [za_sS])); exact q), h.trng, h.repl, h.hisr⟩
  · intro j x y
    have q := h.serv j x y
    rw [za_ni (show ¬ j = 48 + i by omega)]
    exact q
  · intro j x y
    have q := h.secr j x y
    rw [za_ni (show ¬ 12 + j = 48 + i by omega)]
    exact q
  · intro j x y
    have q := h.quar j x y
    rw [za_ni (show ¬ 24 + j = 48 + i by omega)]
    exact q
  · intro j x y
    have q := h.sile j x y
    rw [za_ni (show ¬ 36 + j = 48 + i by omega)]
    exact q
  · intro j x y
    have q := h.call j x y
    by_cases c : j = i
    · subst c
      have c2 : 48 + j = 48 + j := rfl
      simp [za_sA, za_sS, za_sL, zv_sA, zv_sS, zv_sL]
    · have c1 : ¬ zdg j = zdg i := fun e => c (zdg_inj ⟨x, y⟩ hi e)
      have c2 : ¬ 48 + j = 48 + i := by omega
      simp [za_sA, za_sS, za_sL, zv_sA, zv_sS, zv_sL, c1, c2]
      exact q
theorem rel_sile {S T : zS} (h : Rel S T) {i v : Int} (hi : 0 ≤ i ∧ i < 12) : Rel (z_sA S 16 (zdg i) v) (z_sA T 40 (36 + i) v) := by
  refine ⟨h.now, h.nowr, h.ord, h.ordr, h.chg, h.chgr, h.hold, h.holdo, h.flag, h.firm, h.lrn, ?_, ?_, ?_, ?_, ?_, h.by, h.byn, h.held, h.oth, h.orv, h.ors, h.orw, h.ordd, h.uniq, h.cat, (fun f i x y z w => by have q := h.tab f i x y z w; (repeat (first | rw [za_ne (k' := 30 + f.toNat) (by omega)] at q | rw [za_sS] at q)); (repeat (first | rw [za_ne (k' := 30 + f.toNat) (by omega)] | rw [za_sS])); exact q), (fun f m x y z w => by have q := h.tabr f m x y z w; (repeat (first | rw [za_ne (k' := 30 + f.toNat) (by omega)] at q | rw [za_sS] at q)); (repeat (first | rw [za_ne (k' := 30 + f.toNat) (by omega)] | rw [za_sS])); exact q), h.trng, h.repl, h.hisr⟩
  · intro j x y
    have q := h.serv j x y
    rw [za_ni (show ¬ j = 36 + i by omega)]
    exact q
  · intro j x y
    have q := h.secr j x y
    rw [za_ni (show ¬ 12 + j = 36 + i by omega)]
    exact q
  · intro j x y
    have q := h.quar j x y
    rw [za_ni (show ¬ 24 + j = 36 + i by omega)]
    exact q
  · intro j x y
    have q := h.sile j x y
    by_cases c : j = i
    · subst c
      have c2 : 36 + j = 36 + j := rfl
      simp [za_sA, za_sS, za_sL, zv_sA, zv_sS, zv_sL]
    · have c1 : ¬ zdg j = zdg i := fun e => c (zdg_inj ⟨x, y⟩ hi e)
      have c2 : ¬ 36 + j = 36 + i := by omega
      simp [za_sA, za_sS, za_sL, zv_sA, zv_sS, zv_sL, c1, c2]
      exact q
  · intro j x y
    have q := h.call j x y
    rw [za_ni (show ¬ 48 + j = 36 + i by omega)]
    exact q
theorem rel_secr {S T : zS} (h : Rel S T) {i v : Int} (hi : 0 ≤ i ∧ i < 12) (hv : 0 ≤ v ∧ v ≤ 1) : Rel (z_sA S 14 (zdg i) v) (z_sA T 40 (12 + i) v) := by
  refine ⟨h.now, h.nowr, h.ord, h.ordr, h.chg, h.chgr, h.hold, h.holdo, h.flag, h.firm, h.lrn, ?_, ?_, ?_, ?_, ?_, h.by, h.byn, h.held, h.oth, h.orv, h.ors, h.orw, h.ordd, h.uniq, h.cat, (fun f i x y z w => by have q := h.tab f i x y z w; (repeat (first | rw [za_ne (k' := 30 + f.toNat) (by omega)] at q | rw [za_sS] at q)); (repeat (first | rw [za_ne (k' := 30 + f.toNat) (by omega)] | rw [za_sS])); exact q), (fun f m x y z w => by have q := h.tabr f m x y z w; (repeat (first | rw [za_ne (k' := 30 + f.toNat) (by omega)] at q | rw [za_sS] at q)); (repeat (first | rw [za_ne (k' := 30 + f.toNat) (by omega)] | rw [za_sS])); exact q), h.trng, h.repl, h.hisr⟩
  · intro j x y
    have q := h.serv j x y
    rw [za_ni (show ¬ j = 12 + i by omega)]
    exact q
  · intro j x y
    have q := h.secr j x y
    by_cases c : j = i
    · subst c
      have c2 : 12 + j = 12 + j := rfl
      simp [za_sA, za_sS, za_sL, zv_sA, zv_sS, zv_sL]
      omega
    · have c1 : ¬ zdg j = zdg i := fun e => c (zdg_inj ⟨x, y⟩ hi e)
      have c2 : ¬ 12 + j = 12 + i := by omega
      simp [za_sA, za_sS, za_sL, zv_sA, zv_sS, zv_sL, c1, c2]
      exact q
  · intro j x y
    have q := h.quar j x y
    rw [za_ni (show ¬ 24 + j = 12 + i by omega)]
    exact q
  · intro j x y
    have q := h.sile j x y
    rw [za_ni (show ¬ 36 + j = 12 + i by omega)]
    exact q
  · intro j x y
    have q := h.call j x y
    rw [za_ni (show ¬ 48 + j = 12 + i by omega)]
    exact q
theorem rel_quar {S T : zS} (h : Rel S T) {i v : Int} (hi : 0 ≤ i ∧ i < 12) : Rel (z_sA S 15 (zdg i) v) (z_sA T 40 (24 + i) v) := by
  refine ⟨h.now, h.nowr, h.ord, h.ordr, h.chg, h.chgr, h.hold, h.holdo, h.flag, h.firm, h.lrn, ?_, ?_, ?_, ?_, ?_, h.by, h.byn, h.held, ?_, h.orv, h.ors, h.orw, h.ordd, h.uniq, h.cat, (fun f i x y z w => by have q := h.tab f i x y z w; (repeat (first | rw [za_ne (k' := 30 + f.toNat) (by omega)] at q | rw [za_sS] at q)); (repeat (first | rw [za_ne (k' := 30 + f.toNat) (by omega)] | rw [za_sS])); exact q), (fun f m x y z w => by have q := h.tabr f m x y z w; (repeat (first | rw [za_ne (k' := 30 + f.toNat) (by omega)] at q | rw [za_sS] at q)); (repeat (first | rw [za_ne (k' := 30 + f.toNat) (by omega)] | rw [za_sS])); exact q), h.trng, h.repl, h.hisr⟩
  · intro j x y
    have q := h.serv j x y
    rw [za_ni (show ¬ j = 24 + i by omega)]
    exact q
  · intro j x y
    have q := h.secr j x y
    rw [za_ni (show ¬ 12 + j = 24 + i by omega)]
    exact q
  · intro j x y
    have q := h.quar j x y
    by_cases c : j = i
    · subst c
      have c2 : 24 + j = 24 + j := rfl
      simp [za_sA, za_sS, za_sL, zv_sA, zv_sS, zv_sL]
    · have c1 : ¬ zdg j = zdg i := fun e => c (zdg_inj ⟨x, y⟩ hi e)
      have c2 : ¬ 24 + j = 24 + i := by omega
      simp [za_sA, za_sS, za_sL, zv_sA, zv_sS, zv_sL, c1, c2]
      exact q
  · intro j x y
    have q := h.sile j x y
    rw [za_ni (show ¬ 36 + j = 24 + i by omega)]
    exact q
  · intro j x y
    have q := h.call j x y
    rw [za_ni (show ¬ 48 + j = 24 + i by omega)]
    exact q
  · intro m x y g
    have q := h.oth m x y g
    have c : ¬ m = zdg i := g i hi.1 hi.2
    rw [za_ni (k' := 15) c]
    exact q
theorem rel_by {S T : zS} (h : Rel S T) {i v : Int} (hi : 0 ≤ i ∧ i < 12) (hs : ¬ S.2.1 13 (zdg i) = -1) : Rel (z_sA S 18 (zdg i) v) (z_sA T 41 i v) := by
  refine ⟨h.now, h.nowr, h.ord, h.ordr, h.chg, h.chgr, h.hold, h.holdo, h.flag, h.firm, h.lrn, h.serv, h.secr, h.quar, h.sile, h.call, ?_, ?_, h.held, h.oth, h.orv, h.ors, h.orw, h.ordd, h.uniq, h.cat, (fun f i x y z w => by have q := h.tab f i x y z w; (repeat (first | rw [za_ne (k' := 30 + f.toNat) (by omega)] at q | rw [za_sS] at q)); (repeat (first | rw [za_ne (k' := 30 + f.toNat) (by omega)] | rw [za_sS])); exact q), (fun f m x y z w => by have q := h.tabr f m x y z w; (repeat (first | rw [za_ne (k' := 30 + f.toNat) (by omega)] at q | rw [za_sS] at q)); (repeat (first | rw [za_ne (k' := 30 + f.toNat) (by omega)] | rw [za_sS])); exact q), h.trng, h.repl, h.hisr⟩
  · intro j x y g
    have q := h.by j x y g
    by_cases c : j = i
    · subst c
      rw [za_eq, za_eq]
    · rw [za_ni c, za_ni (fun e => c (zdg_inj ⟨x, y⟩ hi e))]
      exact q
  · intro j x y g
    have q := h.byn j x y g
    by_cases c : j = i
    · subst c
      exact absurd g hs
    · rw [za_ni (fun e => c (zdg_inj ⟨x, y⟩ hi e))]
      exact q
theorem rel_lag {S T : zS} (h : Rel S T) {f v w : Int} (hf : 0 ≤ f ∧ f < 6) (hv : 0 ≤ v ∧ v ≤ 50) (hw : w = (S.2.1 12 f + 4096) * 1024 + S.2.1 9 f * 128 + S.2.1 10 f * 64 + v) : Rel (z_sA S 11 f v) (z_sA T 46 f w) := by
  refine ⟨h.now, h.nowr, h.ord, h.ordr, h.chg, h.chgr, h.hold, h.holdo, ?_, ?_, h.lrn, h.serv, h.secr, h.quar, h.sile, h.call, h.by, h.byn, h.held, h.oth, h.orv, h.ors, h.orw, h.ordd, h.uniq, h.cat, (fun f i x y z w => by have q := h.tab f i x y z w; (repeat (first | rw [za_ne (k' := 30 + f.toNat) (by omega)] at q | rw [za_sS] at q)); (repeat (first | rw [za_ne (k' := 30 + f.toNat) (by omega)] | rw [za_sS])); exact q), (fun f m x y z w => by have q := h.tabr f m x y z w; (repeat (first | rw [za_ne (k' := 30 + f.toNat) (by omega)] at q | rw [za_sS] at q)); (repeat (first | rw [za_ne (k' := 30 + f.toNat) (by omega)] | rw [za_sS])); exact q), h.trng, h.repl, h.hisr⟩
  · intro j x y
    have q := h.flag j x y
    by_cases c : j = f
    · subst c
      simp only [za_ne (S := S) (k := 11) (k' := 9) (show 9 ≠ 11 by omega), za_ne (S := S) (k := 11) (k' := 10) (show 10 ≠ 11 by omega), za_eq]
      exact ⟨q.1, q.2.1, hv⟩
    · rw [za_ni (k := 11) (k' := 11) c]
      exact q
  · intro j x y
    have q := h.firm j x y
    by_cases c : j = f
    · subst c
      rw [za_eq, za_eq]
      exact hw
    · rw [za_ni c, za_ni (k := 11) (k' := 11) c]
      exact q
theorem rel_down {S T : zS} (h : Rel S T) {f v w : Int} (hf : 0 ≤ f ∧ f < 6) (hv : v = 0 ∨ v = 1) (hw : w = (S.2.1 12 f + 4096) * 1024 + S.2.1 9 f * 128 + v * 64 + S.2.1 11 f) : Rel (z_sA S 10 f v) (z_sA T 46 f w) := by
  refine ⟨h.now, h.nowr, h.ord, h.ordr, h.chg, h.chgr, h.hold, h.holdo, ?_, ?_, h.lrn, h.serv, h.secr, h.quar, h.sile, h.call, h.by, h.byn, h.held, h.oth, h.orv, h.ors, h.orw, h.ordd, h.uniq, h.cat, (fun f i x y z w => by have q := h.tab f i x y z w; (repeat (first | rw [za_ne (k' := 30 + f.toNat) (by omega)] at q | rw [za_sS] at q)); (repeat (first | rw [za_ne (k' := 30 + f.toNat) (by omega)] | rw [za_sS])); exact q), (fun f m x y z w => by have q := h.tabr f m x y z w; (repeat (first | rw [za_ne (k' := 30 + f.toNat) (by omega)] at q | rw [za_sS] at q)); (repeat (first | rw [za_ne (k' := 30 + f.toNat) (by omega)] | rw [za_sS])); exact q), h.trng, h.repl, h.hisr⟩
  · intro j x y
    have q := h.flag j x y
    by_cases c : j = f
    · subst c
      simp only [za_ne (S := S) (k := 10) (k' := 9) (show 9 ≠ 10 by omega), za_ne (S := S) (k := 10) (k' := 11) (show 11 ≠ 10 by omega), za_eq]
      exact ⟨q.1, hv, q.2.2⟩
    · rw [za_ni (k := 10) (k' := 10) c]
      exact q
  · intro j x y
    have q := h.firm j x y
    by_cases c : j = f
    · subst c
      rw [za_eq, za_eq]
      exact hw
    · rw [za_ni c, za_ni (k := 10) (k' := 10) c]
      exact q
theorem rel_gone {S T : zS} (h : Rel S T) {f v w : Int} (hf : 0 ≤ f ∧ f < 6) (hv : v = 0 ∨ v = 1) (hw : w = (S.2.1 12 f + 4096) * 1024 + v * 128 + S.2.1 10 f * 64 + S.2.1 11 f) : Rel (z_sA S 9 f v) (z_sA T 46 f w) := by
  refine ⟨h.now, h.nowr, h.ord, h.ordr, h.chg, h.chgr, h.hold, h.holdo, ?_, ?_, h.lrn, h.serv, h.secr, h.quar, h.sile, h.call, h.by, h.byn, h.held, h.oth, h.orv, h.ors, h.orw, h.ordd, h.uniq, h.cat, (fun f i x y z w => by have q := h.tab f i x y z w; (repeat (first | rw [za_ne (k' := 30 + f.toNat) (by omega)] at q | rw [za_sS] at q)); (repeat (first | rw [za_ne (k' := 30 + f.toNat) (by omega)] | rw [za_sS])); exact q), (fun f m x y z w => by have q := h.tabr f m x y z w; (repeat (first | rw [za_ne (k' := 30 + f.toNat) (by omega)] at q | rw [za_sS] at q)); (repeat (first | rw [za_ne (k' := 30 + f.toNat) (by omega)] | rw [za_sS])); exact q), h.trng, h.repl, h.hisr⟩
  · intro j x y
    have q := h.flag j x y
    by_cases c : j = f
    · subst c
      simp only [za_ne (S := S) (k := 9) (k' := 10) (show 10 ≠ 9 by omega), za_ne (S := S) (k := 9) (k' := 11) (show 11 ≠ 9 by omega), za_eq]
      exact ⟨hv, q.2⟩
    · rw [za_ni (k := 9) (k' := 9) c]
      exact q
  · intro j x y
    have q := h.firm j x y
    by_cases c : j = f
    · subst c
      rw [za_eq, za_eq]
      exact hw
    · rw [za_ni c, za_ni (k := 9) (k' := 9) c]
      exact q
theorem rel_acc {S T : zS} (h : Rel S T) {f v w : Int} (hf : 0 ≤ f ∧ f < 6) (hw : w = (v + 4096) * 1024 + S.2.1 9 f * 128 + S.2.1 10 f * 64 + S.2.1 11 f) : Rel (z_sA S 12 f v) (z_sA T 46 f w) := by
  refine ⟨h.now, h.nowr, h.ord, h.ordr, h.chg, h.chgr, h.hold, h.holdo, h.flag, ?_, h.lrn, h.serv, h.secr, h.quar, h.sile, h.call, h.by, h.byn, h.held, h.oth, h.orv, h.ors, h.orw, h.ordd, h.uniq, h.cat, (fun f i x y z w => by have q := h.tab f i x y z w; (repeat (first | rw [za_ne (k' := 30 + f.toNat) (by omega)] at q | rw [za_sS] at q)); (repeat (first | rw [za_ne (k' := 30 + f.toNat) (by omega)] | rw [za_sS])); exact q), (fun f m x y z w => by have q := h.tabr f m x y z w; (repeat (first | rw [za_ne (k' := 30 + f.toNat) (by omega)] at q | rw [za_sS] at q)); (repeat (first | rw [za_ne (k' := 30 + f.toNat) (by omega)] | rw [za_sS])); exact q), h.trng, h.repl, h.hisr⟩
  · intro j x y
    have q := h.firm j x y
    by_cases c : j = f
    · subst c
      rw [za_eq, za_eq]
      exact hw
    · rw [za_ni c, za_ni (k := 12) (k' := 12) c]
      exact q
theorem rel_hold {S T : zS} (h : Rel S T) {b f : Int} (hb : 0 ≤ b ∧ b < 4) (hf : -1 ≤ f ∧ f < 6) (hu : f = -1 → ∀ i : Int, 0 ≤ i → i < 12 → i / 3 = b → S.2.1 13 (zdg i) = -1) : Rel (z_sA S 8 b f) (z_sA T 7 b f) := by
  refine ⟨h.now, h.nowr, h.ord, h.ordr, h.chg, h.chgr, ?_, ?_, h.flag, h.firm, h.lrn, h.serv, h.secr, h.quar, h.sile, h.call, h.by, h.byn, ?_, h.oth, h.orv, h.ors, h.orw, h.ordd, h.uniq, h.cat, (fun f i x y z w => by have q := h.tab f i x y z w; (repeat (first | rw [za_ne (k' := 30 + f.toNat) (by omega)] at q | rw [za_sS] at q)); (repeat (first | rw [za_ne (k' := 30 + f.toNat) (by omega)] | rw [za_sS])); exact q), (fun f m x y z w => by have q := h.tabr f m x y z w; (repeat (first | rw [za_ne (k' := 30 + f.toNat) (by omega)] at q | rw [za_sS] at q)); (repeat (first | rw [za_ne (k' := 30 + f.toNat) (by omega)] | rw [za_sS])); exact q), h.trng, h.repl, h.hisr⟩
  · intro j x y
    have q := h.hold j x y
    by_cases c : j = b
    · subst c
      rw [za_eq, za_eq]
      exact ⟨rfl, hf⟩
    · rw [za_ni c, za_ni c]
      exact q
  · intro j x y
    have q := h.holdo j x y
    rw [za_ni (by omega)]
    exact q
  · intro i x y g
    have q := h.held i x y g
    by_cases c : i / 3 = b
    · rw [c, za_eq]
      exact fun e => g (hu e i x y c)
    · rw [za_ni c]
      exact q
theorem rel_canc {S T : zS} (h : Rel S T) {a : Int} (ha : 0 ≤ a ∧ a < S.1 1) (hs : S.2.1 19 a = 1) : Rel (z_sA S 19 a 3) (z_sA T 42 a (T.2.1 42 a + 2)) := by
  have qa := h.orv a ha.1 ha.2
  have qs := h.ors a ha.1 ha.2
  refine ⟨h.now, h.nowr, h.ord, h.ordr, h.chg, h.chgr, h.hold, h.holdo, h.flag, h.firm, h.lrn, h.serv, h.secr, h.quar, h.sile, h.call, h.by, h.byn, h.held, h.oth, ?_, ?_, ?_, ?_, ?_, h.cat, (fun f i x y z w => by have q := h.tab f i x y z w; (repeat (first | rw [za_ne (k' := 30 + f.toNat) (by omega)] at q | rw [za_sS] at q)); (repeat (first | rw [za_ne (k' := 30 + f.toNat) (by omega)] | rw [za_sS])); exact q), (fun f m x y z w => by have q := h.tabr f m x y z w; (repeat (first | rw [za_ne (k' := 30 + f.toNat) (by omega)] at q | rw [za_sS] at q)); (repeat (first | rw [za_ne (k' := 30 + f.toNat) (by omega)] | rw [za_sS])); exact q), h.trng, h.repl, h.hisr⟩
  · intro b x y
    have q := h.orv b x y
    by_cases c : b = a
    · subst c
      rw [za_eq]
      omega
    · rw [za_ni c]
      exact q
  · intro b x y
    have q := h.ors b x y
    by_cases c : b = a
    · subst c
      rw [za_eq, za_eq]
      have e : (T.2.1 42 b + 2) / 64 % 16 = T.2.1 42 b / 64 % 16 := by omega
      rw [e]
      exact ⟨by omega, by show S.2.1 20 b = _; omega, q.2.2.1, by show S.2.1 22 b = _; omega, by show S.2.1 23 b = _; omega, by show S.2.1 24 b = _; omega⟩
    · simp only [za_sA, c, and_false, ↓reduceIte]
      exact q
  · intro b x y g
    by_cases c : b = a
    · subst c
      rw [za_eq] at g
      omega
    · rw [za_ni c] at g
      exact h.orw b x y g
  · intro b x y g
    by_cases c : b = a
    · subst c
      rw [za_eq] at g
      omega
    · rw [za_ni c] at g
      exact h.ordd b x y g
  · intro b d x y x2 y2 g1 g2 g3
    by_cases c : b = a
    · subst c
      rw [za_eq] at g1
      omega
    · by_cases c2 : d = a
      · subst c2
        rw [za_eq] at g2
        omega
      · rw [za_ni c] at g1
        rw [za_ni c2] at g2
        exact h.uniq b d x y x2 y2 g1 g2 g3
theorem rel_back {S T : zS} (h : Rel S T) {a : Int} (ha : 0 ≤ a ∧ a < S.1 1) (hs : S.2.1 19 a = 2) : Rel (z_sA S 19 a 4) (z_sA T 42 a (T.2.1 42 a + 2)) := by
  have qa := h.orv a ha.1 ha.2
  have qs := h.ors a ha.1 ha.2
  refine ⟨h.now, h.nowr, h.ord, h.ordr, h.chg, h.chgr, h.hold, h.holdo, h.flag, h.firm, h.lrn, h.serv, h.secr, h.quar, h.sile, h.call, h.by, h.byn, h.held, h.oth, ?_, ?_, ?_, ?_, ?_, h.cat, (fun f i x y z w => by have q := h.tab f i x y z w; (repeat (first | rw [za_ne (k' := 30 + f.toNat) (by omega)] at q | rw [za_sS] at q)); (repeat (first | rw [za_ne (k' := 30 + f.toNat) (by omega)] | rw [za_sS])); exact q), (fun f m x y z w => by have q := h.tabr f m x y z w; (repeat (first | rw [za_ne (k' := 30 + f.toNat) (by omega)] at q | rw [za_sS] at q)); (repeat (first | rw [za_ne (k' := 30 + f.toNat) (by omega)] | rw [za_sS])); exact q), h.trng, h.repl, h.hisr⟩
  · intro b x y
    have q := h.orv b x y
    by_cases c : b = a
    · subst c
      rw [za_eq]
      omega
    · rw [za_ni c]
      exact q
  · intro b x y
    have q := h.ors b x y
    by_cases c : b = a
    · subst c
      rw [za_eq, za_eq]
      have e : (T.2.1 42 b + 2) / 64 % 16 = T.2.1 42 b / 64 % 16 := by omega
      rw [e]
      exact ⟨by omega, by show S.2.1 20 b = _; omega, q.2.2.1, by show S.2.1 22 b = _; omega, by show S.2.1 23 b = _; omega, by show S.2.1 24 b = _; omega⟩
    · simp only [za_sA, c, and_false, ↓reduceIte]
      exact q
  · intro b x y g
    by_cases c : b = a
    · subst c
      rw [za_eq] at g
      omega
    · rw [za_ni c] at g
      exact h.orw b x y g
  · intro b x y g
    by_cases c : b = a
    · subst c
      rw [za_eq] at g
      omega
    · rw [za_ni c] at g
      exact h.ordd b x y g
  · intro b d x y x2 y2 g1 g2 g3
    by_cases c : b = a
    · subst c
      rw [za_eq] at g1
      omega
    · by_cases c2 : d = a
      · subst c2
        rw [za_eq] at g2
        omega
      · rw [za_ni c] at g1
        rw [za_ni c2] at g2
        exact h.uniq b d x y x2 y2 g1 g2 g3
theorem rel_put {S T : zS} (h : Rel S T) {a m : Int} (ha : 0 ≤ a ∧ a < S.1 1) (hs : S.2.1 19 a = 1) (hm : 0 ≤ m ∧ m ≤ 20000) : Rel (z_sA S 24 a m) (z_sA T 42 a (T.2.1 42 a % 65536 + m * 65536)) := by
  have qa := h.orv a ha.1 ha.2
  have qs := h.ors a ha.1 ha.2
  refine ⟨h.now, h.nowr, h.ord, h.ordr, h.chg, h.chgr, h.hold, h.holdo, h.flag, h.firm, h.lrn, h.serv, h.secr, h.quar, h.sile, h.call, h.by, h.byn, h.held, h.oth, ?_, ?_, h.orw, ?_, h.uniq, h.cat, (fun f i x y z w => by have q := h.tab f i x y z w; (repeat (first | rw [za_ne (k' := 30 + f.toNat) (by omega)] at q | rw [za_sS] at q)); (repeat (first | rw [za_ne (k' := 30 + f.toNat) (by omega)] | rw [za_sS])); exact q), (fun f m x y z w => by have q := h.tabr f m x y z w; (repeat (first | rw [za_ne (k' := 30 + f.toNat) (by omega)] at q | rw [za_sS] at q)); (repeat (first | rw [za_ne (k' := 30 + f.toNat) (by omega)] | rw [za_sS])); exact q), h.trng, h.repl, h.hisr⟩
  · intro b x y
    have q := h.orv b x y
    by_cases c : b = a
    · subst c
      rw [za_eq]
      omega
    · rw [za_ni c]
      exact q
  · intro b x y
    have q := h.ors b x y
    by_cases c : b = a
    · subst c
      rw [za_eq, za_eq]
      have e : (T.2.1 42 b % 65536 + m * 65536) / 64 % 16 = T.2.1 42 b / 64 % 16 := by omega
      rw [e]
      exact ⟨by show S.2.1 19 b = _; omega, by show S.2.1 20 b = _; omega, q.2.2.1, by show S.2.1 22 b = _; omega, by show S.2.1 23 b = _; omega, by omega⟩
    · simp only [za_sA, c, and_false, ↓reduceIte]
      exact q
  · intro b x y g
    by_cases c : b = a
    · subst c
      have g2 : S.2.1 19 b = 2 := g
      omega
    · have q := h.ordd b x y g
      simp only [za_sA, c, and_false, ↓reduceIte]
      exact q
theorem rel_done {S T : zS} (h : Rel S T) {a d w : Int} (ha : 0 ≤ a ∧ a < S.1 1) (hs : S.2.1 19 a = 1) (hd : 0 ≤ d ∧ d < 6) (hdue : S.2.1 24 a = S.1 0) (hw : w = T.2.1 42 a / 65536 * 65536 + (d + 1) * 8192 + T.2.1 42 a % 8192 + 1) : Rel (z_sA (z_sA S 19 a 2) 23 a d) (z_sA (z_sA T 42 a w) 43 a (T.2.1 47 0)) := by
  have qa := h.orv a ha.1 ha.2
  have qs := h.ors a ha.1 ha.2
  have qn := h.now
  have qr := h.nowr
  refine ⟨h.now, h.nowr, h.ord, h.ordr, h.chg, h.chgr, h.hold, h.holdo, h.flag, h.firm, h.lrn, h.serv, h.secr, h.quar, h.sile, h.call, h.by, h.byn, h.held, h.oth, ?_, ?_, ?_, ?_, ?_, h.cat, (fun f i x y z w => by have q := h.tab f i x y z w; (repeat (first | rw [za_ne (k' := 30 + f.toNat) (by omega)] at q | rw [za_sS] at q)); (repeat (first | rw [za_ne (k' := 30 + f.toNat) (by omega)] | rw [za_sS])); exact q), (fun f m x y z w => by have q := h.tabr f m x y z w; (repeat (first | rw [za_ne (k' := 30 + f.toNat) (by omega)] at q | rw [za_sS] at q)); (repeat (first | rw [za_ne (k' := 30 + f.toNat) (by omega)] | rw [za_sS])); exact q), h.trng, h.repl, h.hisr⟩
  · intro b x y
    have q := h.orv b x y
    rw [za_ne (show (42 : Nat) ≠ 43 by omega)]
    by_cases c : b = a
    · subst c
      rw [za_eq]
      omega
    · rw [za_ni c]
      exact q
  · intro b x y
    have q := h.ors b x y
    rw [za_ne (S := z_sA T 42 a w) (show (42 : Nat) ≠ 43 by omega)]
    by_cases c : b = a
    · subst c
      rw [za_eq]
      have e : w / 64 % 16 = T.2.1 42 b / 64 % 16 := by omega
      rw [e]
      refine ⟨?_, by show S.2.1 20 b = _; omega, q.2.2.1, by show S.2.1 22 b = _; omega, ?_, by show S.2.1 24 b = _; omega⟩
      · rw [za_ne (by omega), za_eq]
        omega
      · rw [za_eq]
        omega
    · simp only [za_sA, c, and_false, ↓reduceIte]
      exact q
  · intro b x y g
    rw [za_ne (show (19 : Nat) ≠ 23 by omega)] at g
    by_cases c : b = a
    · subst c
      rw [za_eq] at g
      omega
    · rw [za_ni c] at g
      exact h.orw b x y g
  · intro b x y g
    rw [za_ne (show (19 : Nat) ≠ 23 by omega)] at g
    by_cases c : b = a
    · subst c
      rw [za_eq, za_eq]
      refine ⟨?_, by omega, ?_⟩
      · show T.2.1 47 0 = S.2.1 24 b
        omega
      · show S.2.1 24 b ≤ 9999
        omega
    · rw [za_ni c] at g
      have q := h.ordd b x y g
      simp only [za_sA, c, and_false, ↓reduceIte]
      exact q
  · intro b d x y x2 y2 g1 g2 g3
    rw [za_ne (show (19 : Nat) ≠ 23 by omega)] at g1 g2
    by_cases c : b = a
    · subst c
      rw [za_eq] at g1
      omega
    · by_cases c2 : d = a
      · subst c2
        rw [za_eq] at g2
        omega
      · rw [za_ni c] at g1
        rw [za_ni c2] at g2
        exact h.uniq b d x y x2 y2 g1 g2 g3
theorem rel_chg {S T : zS} (h : Rel S T) {i p : Int} (hi : 0 ≤ i ∧ i < 12) (hp : 0 ≤ p ∧ p ≤ 6) : Rel (x_chg S (S.1 0) (zdg i) p) (z_sA (z_sA T 44 (T.2.1 47 2) (T.2.1 47 0 + i * 16384 + p * 262144)) 47 2 (T.2.1 47 2 + 1)) := by
  have qn := h.now
  have qr := h.nowr
  refine ⟨h.now, h.nowr, h.ord, h.ordr, ?_, ?_, h.hold, h.holdo, h.flag, h.firm, ?_, h.serv, h.secr, h.quar, h.sile, h.call, h.by, h.byn, h.held, h.oth, h.orv, h.ors, h.orw, h.ordd, h.uniq, ?_, ?_, ?_, h.trng, h.repl, h.hisr⟩
  · show T.2.1 47 2 + 1 = S.1 2 + 1
    have := h.chg
    omega
  · show 0 ≤ S.1 2 + 1
    have := h.chgr
    omega
  · intro f x y
    have q := h.lrn f x y
    exact ⟨q.1, q.2.1, show S.2.1 28 f ≤ S.1 2 + 1 by omega⟩
  · intro j x y
    have y2 : j < S.1 2 + 1 := y
    have ec := h.chg
    by_cases c : j = S.1 2
    · have c2 : j = T.2.1 47 2 := by omega
      have e : (T.2.1 47 0 + i * 16384 + p * 262144) / 16384 % 16 = i := by omega
      simp only [x_chg, za_sS]
      rw [za_ne (k := 47) (by omega), c2, za_eq, ← c2, c, e]
      refine ⟨by omega, by omega, by omega, ?_, ?_, ?_⟩
      · rw [za_ne (by omega), za_ne (by omega), za_eq]
        omega
      · rw [za_ne (by omega), za_eq]
      · rw [za_eq]
        omega
    · have q := h.cat j x (by omega)
      have c2 : ¬ j = T.2.1 47 2 := by omega
      simp only [x_chg, za_sS]
      rw [za_ne (k := 47) (by omega), za_ni c2, za_ne (k' := 25) (by omega), za_ne (k' := 25) (by omega), za_ni c, za_ne (k' := 26) (by omega), za_ni c, za_ne (k' := 26) (by omega), za_ni c, za_ne (k' := 27) (by omega), za_ne (k' := 27) (by omega)]
      exact q
  · intro f j x y z w
    have q := h.tab f j x y z w
    simp only [x_chg, za_sS]
    rw [za_ne (by omega), za_ne (by omega), za_ne (by omega)]
    exact q
  · intro f j x y z w
    have q := h.tabr f j x y z w
    simp only [x_chg, za_sS]
    rw [za_ne (by omega), za_ne (by omega), za_ne (by omega)]
    exact q
theorem rel_srv {S T : zS} (h : Rel S T) {i f : Int} (hi : 0 ≤ i ∧ i < 12) (hf : 0 ≤ f ∧ f < 6) (hs : ¬ S.2.1 13 (zdg i) = -1) : Rel (x_note (z_sA S 13 (zdg i) f) 0 (zdg i) f) (z_sA T 40 i f) := by
  refine ⟨h.now, h.nowr, h.ord, h.ordr, h.chg, h.chgr, h.hold, h.holdo, h.flag, h.firm, h.lrn, ?_, ?_, ?_, ?_, ?_, ?_, ?_, ?_, ?_, h.orv, h.ors, ?_, h.ordd, h.uniq, h.cat, ?_, ?_, h.trng, ?_, ?_⟩
  · intro j x y
    have q := h.serv j x y
    simp only [x_note, za_sS]
    rw [za_ne (k' := 13) (by omega), za_ne (k' := 13) (by omega), za_ne (k' := 13) (by omega)]
    by_cases c : j = i
    · subst c
      rw [za_eq, za_eq]
      exact ⟨rfl, by omega⟩
    · rw [za_ni c, za_ni (fun e => c (zdg_inj ⟨x, y⟩ hi e))]
      exact q
  · intro j x y
    have q := h.secr j x y
    rw [za_ni (show ¬ 12 + j = i by omega)]
    exact q
  · intro j x y
    have q := h.quar j x y
    rw [za_ni (show ¬ 24 + j = i by omega)]
    exact q
  · intro j x y
    have q := h.sile j x y
    rw [za_ni (show ¬ 36 + j = i by omega)]
    exact q
  · intro j x y
    have q := h.call j x y
    rw [za_ni (show ¬ 48 + j = i by omega)]
    exact q
  · intro j x y g
    simp only [x_note, za_sS] at g
    rw [za_ne (by omega), za_ne (by omega), za_ne (by omega)] at g
    by_cases c : j = i
    · subst c
      exact h.by j x y hs
    · rw [za_ni (fun e => c (zdg_inj ⟨x, y⟩ hi e))] at g
      exact h.by j x y g
  · intro j x y g
    simp only [x_note, za_sS] at g
    rw [za_ne (by omega), za_ne (by omega), za_ne (by omega)] at g
    by_cases c : j = i
    · subst c
      rw [za_eq] at g
      omega
    · rw [za_ni (fun e => c (zdg_inj ⟨x, y⟩ hi e))] at g
      exact h.byn j x y g
  · intro j x y g
    simp only [x_note, za_sS] at g
    rw [za_ne (by omega), za_ne (by omega), za_ne (by omega)] at g
    by_cases c : j = i
    · subst c
      exact h.held j x y hs
    · rw [za_ni (fun e => c (zdg_inj ⟨x, y⟩ hi e))] at g
      exact h.held j x y g
  · intro m x y g
    have q := h.oth m x y g
    simp only [x_note, za_sS]
    rw [za_ne (k' := 13) (by omega), za_ne (k' := 13) (by omega), za_ne (k' := 13) (by omega), za_ni (g i hi.1 hi.2)]
    exact q
  · intro a x y g
    have q := h.orw a x y g
    have qs := h.ors a x y
    have qv := h.orv a x y
    simp only [x_note, za_sS]
    rw [za_ne (k' := 13) (by omega), za_ne (k' := 13) (by omega), za_ne (k' := 13) (by omega)]
    show ¬ (z_sA S 13 (zdg i) f).2.1 13 (S.2.1 21 a) = -1
    by_cases c : S.2.1 21 a = zdg i
    · rw [c, za_eq]
      omega
    · rw [za_ni c]
      exact q
  · intro g j x y z w
    have q := h.tab g j x y z w
    simp only [x_note, za_sS]
    rw [za_ne (by omega), za_ne (by omega), za_ne (by omega), za_ne (by omega)]
    exact q
  · intro g j x y z w
    have q := h.tabr g j x y z w
    simp only [x_note, za_sS]
    rw [za_ne (by omega), za_ne (by omega), za_ne (by omega), za_ne (by omega)]
    exact q
  · intro m x y
    have q := h.repl m x y
    rw [note_rep (S := S) (U := z_sA S 13 (zdg i) f) h.hisr rfl rfl rfl rfl, if_pos rfl, q]
    simp only [x_note, za_sS]
    rw [za_ne (by omega), za_ne (by omega), za_ne (by omega)]
    by_cases c : zdg i = m
    · rw [if_pos c, c, za_eq]
    · rw [if_neg c, za_ni (fun e => c e.symm)]
  · show 0 ≤ S.1 3 + 1
    have := h.hisr
    omega
theorem rel_tick {S T : zS} (h : Rel S T) (hn : S.1 0 < 9999) : Rel (z_sS S 0 (S.1 0 + 1)) (z_sA T 47 0 (T.2.1 47 0 + 1)) := by
  refine ⟨?_, ?_, h.ord, h.ordr, h.chg, h.chgr, h.hold, h.holdo, h.flag, h.firm, h.lrn, h.serv, h.secr, h.quar, h.sile, h.call, h.by, h.byn, h.held, h.oth, h.orv, h.ors, h.orw, h.ordd, h.uniq, h.cat, (fun f i x y z w => by have q := h.tab f i x y z w; (repeat (first | rw [za_ne (k' := 30 + f.toNat) (by omega)] at q | rw [za_sS] at q)); (repeat (first | rw [za_ne (k' := 30 + f.toNat) (by omega)] | rw [za_sS])); exact q), (fun f m x y z w => by have q := h.tabr f m x y z w; (repeat (first | rw [za_ne (k' := 30 + f.toNat) (by omega)] at q | rw [za_sS] at q)); (repeat (first | rw [za_ne (k' := 30 + f.toNat) (by omega)] | rw [za_sS])); exact q), h.trng, h.repl, h.hisr⟩
  · show T.2.1 47 0 + 1 = S.1 0 + 1
    have := h.now
    omega
  · show 0 ≤ S.1 0 + 1 ∧ S.1 0 + 1 ≤ 9999
    have := h.nowr
    omega
theorem rel_mv {S T : zS} (h : Rel S T) {i f : Int} (hi : 0 ≤ i ∧ i < 12) (hf : 0 ≤ f ∧ f < 6) (hs : ¬ S.2.1 13 (zdg i) = -1) : Rel (x_mv S (zdg i) f) (y_gt T i f) := by
  have hd := zdg_rng hi
  have hb := h.hold (i / 3) (by omega) (by omega)
  have r1 := rel_srv h hi hf hs
  have r2 := rel_chg r1 (i := i) (p := if S.2.1 8 (zdg i / 10) = f then 6 else f) hi (by split <;> omega)
  refine (r2.cls ?_).law ?_
  · exact zcl.rf
  · unfold y_gt
    rw [hd.2.2, ← hb.1]
    refine ⟨fun k hk => funext fun j => ?_, rfl⟩
    simp only [za_sA]
    by_cases c1 : k = 44
    · subst c1
      simp
    · by_cases c2 : k = 47
      · subst c2
        simp
      · simp [c1, c2]
