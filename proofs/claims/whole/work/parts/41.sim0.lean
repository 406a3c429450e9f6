/-! ===== the simulation, call by call ===== -/
theorem w_err {M : zM} {as : List zV} {S T : zS} {L : List String} {o : zO} {X : String} {n : Int} (hw : z_Wr M as S L o) (e : o = (.error X, T)) (hn : z_cm L X = n) : z_SpW M as S (fun x U => x = .ok (some (zI n)) ∧ U = T) := by
  subst e
  subst hn
  exact hw
theorem w_okz {M : zM} {as : List zV} {S T : zS} {L : List String} {o : zO} {z : Int} (hw : z_Wr M as S L o) (e : o = (zI? z, T)) : z_SpW M as S (fun x U => x = .ok (some (zI 0)) ∧ U = z_sL T z) := by
  subst e
  exact hw
theorem t_get {M : zM} {as : List zV} {S T : zS} {p : Int × zS} {v : Int} (ht : z_Ret M as S p) (e : p = (v, T)) : z_Fn M as S (some (zI v)) T := by
  subst e
  exact ht
abbrev zInv (n : Nat) (S : zS) : Prop := zRel n S S
theorem sim_err {Mw Mr : zM} {aw ar : List zV} {n : Nat} {S : zS} {L : List String} {o : zO} {X : String} {k : Int} {p : Int × zS} (h : zInv n S) (hw : z_Wr Mw aw S L o) (e : o = (.error X, S)) (hk : z_cm L X = k) (hk0 : k ≠ 0) (ht : z_Ret Mr ar S p) (ep : p = (0, z_sS S 5 k)) :
    ∃ (k v : Int) (S1 S2 : zS), z_SpW Mw aw S (fun x T => x = .ok (some (zI k)) ∧ T = S1) ∧ z_Fn Mr ar S1 (some (zI v)) S2 ∧ S2.1 5 = k ∧ (k = 0 → S2.2.2 = v) ∧ zInv (n + 1) S2 :=
  ⟨k, 0, S, z_sS S 5 k, w_err hw e hk, t_get ht ep, rfl, fun q => absurd q hk0, h.up.thr k⟩
theorem sim_ok {Mw Mr : zM} {aw ar : List zV} {n : Nat} {S S1 S2 : zS} {L : List String} {o : zO} {z : Int} {p : Int × zS} (hw : z_Wr Mw aw S L o) (e : o = (zI? z, S1)) (ht : z_Ret Mr ar (z_sL S1 z) p) (ep : p = (z, S2)) (h5 : S2.1 5 = 0) (hl : S2.2.2 = z) (hI : zInv (n + 1) S2) :
    ∃ (k v : Int) (S1 S2 : zS), z_SpW Mw aw S (fun x T => x = .ok (some (zI k)) ∧ T = S1) ∧ z_Fn Mr ar S1 (some (zI v)) S2 ∧ S2.1 5 = k ∧ (k = 0 → S2.2.2 = v) ∧ zInv (n + 1) S2 :=
  ⟨0, z, z_sL S1 z, S2, w_okz hw e, t_get ht ep, h5, fun _ => hl, hI⟩
theorem z_she {L : List String} {X : String} {o : zO} {T : zS} (e : o = (.error X, T)) (h : X ∈ L) : z_sh L o.1 := by
  subst e
  exact h
theorem z_shk {L : List String} {z : Int} {o : zO} {T : zS} (e : o = (zI? z, T)) : z_sh L o.1 := by
  subst e
  trivial
theorem zRel.yM' {n : Nat} {S T : zS} (h : zRel n S T) : yM T := by
  refine ⟨by rw [← h.now]; exact h.nowr, fun k a b => ?_⟩
  have h1 := h.quar k a b
  have h2 := h.sile k a b
  have h3 := h.call k a b
  omega
theorem zRel.yP' {n : Nat} {S T : zS} (h : zRel n S T) : yP T (S.1 1).toNat := by
  have ho := h.ordr
  have hc := h.chgr
  refine ⟨by rw [← h.ord]; omega, by omega, h.yM', by rw [← h.chg]; exact hc, fun o a b => ?_, fun k a b => ?_, fun f a b => ?_⟩
  · have e := h.ords o a (by omega)
    have v := h.ordv o a (by omega)
    have w := h.ordw o a (by omega)
    have hs := h.serv (S.2.1 21 o) v.1.1 v.1.2
    rw [← e.1, ← e.2.2.1, ← e.2.2.2.1, ← e.2.2.2.2.2]
    exact ⟨v.1, v.2.1, v.2.2, fun q => by rw [← hs.1]; exact w q⟩
  · have hs := h.serv k a b
    rw [← hs.1]
    exact hs.2
  · have h1 := h.lrn f a b
    have h2 := h.lag f a b
    rw [← h1.1, ← h2.1, ← h.chg]
    exact ⟨h1.2.1, h1.2.2, h2.2⟩
theorem zRel.xP' {n : Nat} {S T : zS} (h : zRel n S T) : xP S (S.1 1).toNat := by
  have ho := h.ordr
  refine ⟨by omega, by omega, h.nowr, h.chgr, h.hisr.1, fun o a b => ?_, fun k a b => (h.serv k a b).2, fun j a b => (h.cat j a b).2.2.2.1, fun f a b => ?_⟩
  · have v := h.ordv o a (by omega)
    exact ⟨v.1, v.2.1, v.2.2, h.ordw o a (by omega)⟩
  · have h1 := h.lrn f a b
    have h2 := h.lag f a b
    exact ⟨h1.2.1, h1.2.2, h2.2⟩
theorem zlast_rng {a b : Int → Int} {n : Int} : ∀ k : Nat, (∀ j : Int, 0 ≤ j → j < k → 0 ≤ b j ∧ b j ≤ 6) → 0 ≤ zlast a b n k ∧ zlast a b n k ≤ 6
  | 0, _ => by rw [zlast]; omega
  | k + 1, h => by
    have h1 := zlast_rng (a := a) (n := n) k (fun j x y => h j x (by omega))
    have h2 := h k (by omega) (by omega)
    rw [zlast]
    split <;> omega
theorem zlast_cong {a b a' b' : Int → Int} {n : Int} : ∀ k : Nat, (∀ j : Int, 0 ≤ j → j < k → a j = a' j ∧ b j = b' j) → zlast a b n k = zlast a' b' n k
  | 0, _ => rfl
  | k + 1, h => by
    have h2 := h k (by omega) (by omega)
    rw [zlast, zlast, h2.1, h2.2, zlast_cong k (fun j x y => h j x (by omega))]
theorem zRel.xR2' {n : Nat} {S T : zS} (h : zRel n S T) : xR2 S := by
  refine ⟨fun b x y => (h.hold b x y).2, fun f k a b x y => ?_, fun f a b => (h.gone f a b).2⟩
  rw [h.tab f k a b x y]
  have hl := h.lrn f a b
  exact zlast_rng _ (fun j p q => (h.cat j p (by omega)).2.2.2.2)
/-- the reference's last change among those that a firm knows is the class's row -/
theorem zRel.last' {n : Nat} {S T : zS} (h : zRel n S T) {f k : Int} (hf : 0 ≤ f ∧ f < 6) (hk : 0 ≤ k ∧ k < 200) : y_last T k (T.2.1 58 f).toNat = S.2.1 (30 + f.toNat) k := by
  have hl := h.lrn f hf.1 hf.2
  rw [h.tab f k hf.1 hf.2 hk.1 hk.2, y_last_z, ← hl.1]
  refine (zlast_cong _ (fun j p q => ?_)).symm
  have hc := h.cat j p (by omega)
  exact ⟨hc.2.1, hc.2.2.1⟩
theorem zRel.kb' {n : Nat} {S T : zS} (h : zRel n S T) {f k : Int} (hf : 0 ≤ f ∧ f < 6) (hk : 0 ≤ k ∧ k < 200) : y_kb T f k = x_pbt S f k := by
  unfold y_kb x_pbt
  rw [h.last' hf hk, ← (h.hold (k / 10) (by omega) (by omega)).1]
theorem zRel.yC' {n : Nat} {S T : zS} (h : zRel n S T) : yC T := by
  refine ⟨fun f a b => ?_, fun k j => ?_, fun f a b => ?_, fun b x y => ?_⟩
  · have hl := h.lrn f a b
    have hc := h.chg540
    rw [← hl.1]
    omega
  · rw [y_last_z]
    exact zlast_rng _ (fun j p q => h.to6 j p)
  · have := h.gone f a b
    rw [← this.1]
    exact this.2
  · have := h.hold b x y
    rw [← this.1]
    exact this.2
theorem zRel.gone' {n : Nat} {S T : zS} (h : zRel n S T) : ∀ f : Int, 0 ≤ f → f < 6 → T.2.1 41 f = 0 ∨ T.2.1 41 f = 1 := h.yC'.2.2.1
/-- orders that wait for a number: there is one at most -/
theorem z_first_none {p : Nat → Bool} : ∀ (k i : Nat), z_first p i k = none → ∀ j, i ≤ j → j < i + k → p j = false
  | 0, _, _, j, a, b => absurd b (by omega)
  | k + 1, i, h, j, a, b => by
    rw [z_first] at h
    by_cases e : p i = true
    · rw [if_pos e] at h; cases h
    · rw [if_neg e] at h
      by_cases hj : j = i
      · subst hj; simpa using e
      · exact z_first_none k (i + 1) h j (by omega) (by omega)
theorem z_first_some {p : Nat → Bool} : ∀ (k i r : Nat), z_first p i k = some r → (i ≤ r ∧ r < i + k) ∧ p r = true
  | 0, _, _, h => nomatch h
  | k + 1, i, r, h => by
    rw [z_first] at h
    by_cases e : p i = true
    · rw [if_pos e] at h
      cases h
      exact ⟨⟨Nat.le_refl _, by omega⟩, e⟩
    · rw [if_neg e] at h
      have := z_first_some k (i + 1) r h
      exact ⟨⟨by omega, by omega⟩, this.2⟩
theorem y_wf_none {T : zS} {n : Int} : ∀ c : Nat, (∀ o : Nat, o < c → ¬ (T.2.1 48 o = 1 ∧ T.2.1 50 o = n)) → y_wf T n c = -1
  | 0, _ => rfl
  | c + 1, h => by rw [y_wf, if_neg (h c (by omega)), y_wf_none c (fun o ho => h o (by omega))]
theorem y_wf_some {T : zS} {n : Int} {r : Nat} : ∀ c : Nat, r < c → T.2.1 48 r = 1 ∧ T.2.1 50 r = n → (∀ o : Nat, o < c → T.2.1 48 o = 1 ∧ T.2.1 50 o = n → o = r) → y_wf T n c = r
  | 0, h, _, _ => absurd h (by omega)
  | c + 1, h, hr, hu => by
    rw [y_wf]
    by_cases e : T.2.1 48 c = 1 ∧ T.2.1 50 c = n
    · rw [if_pos e, hu c (by omega) e]
    · rw [if_neg e]
      have hne : r ≠ c := fun q => e (q ▸ hr)
      exact y_wf_some c (by omega) hr (fun o ho => hu o (by omega))
theorem zRel.wf' {n : Nat} {S T : zS} (h : zRel n S T) (k : Int) : z_on (x_wf S k (S.1 1).toNat) = y_wf T k (S.1 1).toNat := by
  have hr := h.ordr
  have key : ∀ o : Nat, o < (S.1 1).toNat → (S.2.1 19 o = T.2.1 48 o ∧ S.2.1 21 o = T.2.1 50 o) := fun o ho => by
    have := h.ords o (by omega) (by omega)
    exact ⟨this.1, this.2.2.1⟩
  cases hx : x_wf S k (S.1 1).toNat with
  | none =>
    refine (y_wf_none _ (fun o ho q => ?_)).symm
    have := z_first_none _ _ hx o (by omega) (by omega)
    have hk := key o ho
    rw [hk.1, hk.2] at this
    simp [q] at this
  | some r =>
    have := z_first_some _ _ _ hx
    have hk := key r (by omega)
    have hp := of_decide_eq_true this.2
    refine (y_wf_some _ (by omega) (by rw [← hk.1, ← hk.2]; exact hp) (fun o ho q => ?_)).symm
    have hk2 := key o ho
    rw [← hk2.1, ← hk2.2] at q
    have := h.uniq o r (by omega) (by omega) (by omega) (by omega) q.1 hp.1 (by rw [q.2, hp.2])
    omega
theorem zRel.cwa' {n : Nat} {S T : zS} (h : zRel n S T) (m : Int) : x_cwa S m (S.1 1).toNat = y_cwa T m (S.1 1).toNat := by
  have hr := h.ordr
  unfold x_cwa y_cwa
  refine z_ct_cong (fun o ho => ?_)
  have := h.ords o (by omega) (by omega)
  rw [this.1, this.2.2.2.2.2]
theorem zRel.cw' {n : Nat} {S T : zS} (h : zRel n S T) : x_cw S (S.1 1).toNat = y_cw T (S.1 1).toNat := by
  have hr := h.ordr
  unfold x_cw y_cw
  refine z_ct_cong (fun o ho => ?_)
  have := h.ords o (by omega) (by omega)
  rw [this.1]
theorem y_wf_cong {T T' : zS} {n : Int} (h1 : T'.2.1 48 = T.2.1 48) (h2 : T'.2.1 50 = T.2.1 50) : ∀ c, y_wf T' n c = y_wf T n c
  | 0 => rfl
  | c + 1 => by rw [y_wf, y_wf, h1, h2, y_wf_cong h1 h2 c]
