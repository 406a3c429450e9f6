/-! ===== minutes go by: the law's rows ===== -/
theorem zs_tw {S : zS} {k : Nat} {i a b : Int} : z_sA (z_sA S k i a) k i b = z_sA S k i b := by
  unfold z_sA
  congr 2
  funext k' j
  by_cases h : k' = k ∧ j = i
  · rw [if_pos h, if_pos h]
  · rw [if_neg h, if_neg h]
    show (if k' = k ∧ j = i then a else S.2.1 k' j) = S.2.1 k' j
    rw [if_neg h]
/-! the minutes that are full are few -/
def y_sm (g : Nat → Nat) : Nat → Nat
  | 0 => 0
  | j + 1 => y_sm g j + g j
theorem y_sm_add {g h : Nat → Nat} : ∀ J, y_sm (fun j => g j + h j) J = y_sm g J + y_sm h J
  | 0 => rfl
  | J + 1 => by rw [y_sm, y_sm, y_sm, y_sm_add J]; omega
theorem y_sm_cong {g h : Nat → Nat} (e : ∀ j, g j = h j) (J : Nat) : y_sm g J = y_sm h J := by rw [funext e]
theorem y_sm_ind {A : Prop} [Decidable A] {v m0 : Int} : ∀ J : Nat, y_sm (fun j => if A ∧ v = m0 + 100 * (j : Int) then 1 else 0) J ≤ if v < m0 + 100 * (J : Int) then 1 else 0
  | 0 => by rw [y_sm]; exact Nat.zero_le _
  | J + 1 => by
    have h := y_sm_ind (A := A) (v := v) (m0 := m0) J
    rw [y_sm]
    split at h <;> split <;> split <;> omega
theorem y_sm_wa {S : zS} {m0 : Int} (J : Nat) : ∀ c : Nat, y_sm (fun j => y_wa S (m0 + 100 * (j : Int)) c) J ≤ c
  | 0 => by
    have : y_sm (fun j => y_wa S (m0 + 100 * (j : Int)) 0) J = 0 := by
      induction J with
      | zero => rfl
      | succ J ih => rw [y_sm, ih]; rfl
    omega
  | c + 1 => by
    have h := y_sm_wa (S := S) (m0 := m0) J c
    have h2 := y_sm_ind (A := S.2.1 42 c % 8 = 1) (v := S.2.1 42 c / 65536) (m0 := m0) J
    rw [y_sm_cong (fun j => y_wa_s S (m0 + 100 * (j : Int)) c), y_sm_add]
    split at h2 <;> omega
theorem y_sm_ge {g : Nat → Nat} : ∀ J : Nat, (∀ j, j < J → 3 ≤ g j) → 3 * J ≤ y_sm g J
  | 0, _ => by simp
  | J + 1, h => by
    have h1 := y_sm_ge J (fun j hj => h j (by omega))
    have h2 := h J (by omega)
    rw [y_sm]
    omega
theorem y_free {S : zS} {c : Nat} (h60 : c ≤ 60) (m0 : Int) : ∃ j : Nat, j < 60 ∧ y_wa S (m0 + 100 * j) c < 3 := by
  refine Classical.byContradiction fun hn => ?_
  have h1 := y_sm_ge (g := fun j => y_wa S (m0 + 100 * (j : Int)) c) 21 (fun j hj => by
    refine Classical.byContradiction fun q => hn ⟨j, by omega, by omega⟩)
  have h2 := y_sm_wa (S := S) (m0 := m0) 21 c
  omega
def y_po (T : zS) (c : Nat) (m : Int) : Nat → Int
  | 0 => m
  | k + 1 => if 3 ≤ y_wa T m c then y_po T c (m + 100) k else m
theorem y_po_rng {S : zS} {c : Nat} : ∀ (k : Nat) (m : Int), m ≤ y_po S c m k ∧ y_po S c m k ≤ m + 100 * k
  | 0, m => by simp [y_po]
  | k + 1, m => by
    have h := y_po_rng (S := S) (c := c) k (m + 100)
    unfold y_po
    split <;> omega
theorem Rel.po' {X T : zS} (h : Rel X T) : ∀ (k : Nat) (m : Int), x_po X (X.1 1).toNat m k = y_po T (X.1 1).toNat m k
  | 0, _ => rfl
  | k + 1, m => by
    rw [x_po, y_po, h.wa m, h.po' k (m + 100)]
/-- an order is carried out: the law's rows -/
def y_dn (T : zS) (o i w d : Int) : zS := z_sA (y_gt (y_pay (z_sA (z_sA T 42 o (T.2.1 42 o / 65536 * 65536 + (d + 1) * 8192 + T.2.1 42 o % 8192 + 1)) 43 o (T.2.1 47 0)) w d 5120) i w) 41 i o
def y_co (T : zS) (c : Nat) (o : Int) : zS :=
  if T.2.1 47 0 ≤ T.2.1 40 (48 + T.2.1 42 o / 64 % 16) then z_sA T 42 o (T.2.1 42 o % 65536 + y_po T c (T.2.1 47 0 + 100) 60 * 65536)
  else if T.2.1 40 (T.2.1 42 o / 64 % 16) = T.2.1 42 o / 1024 % 8 then z_sA T 42 o (T.2.1 42 o + 2)
  else y_dn T o (T.2.1 42 o / 64 % 16) (T.2.1 42 o / 1024 % 8) (T.2.1 40 (T.2.1 42 o / 64 % 16))
def y_cob (T : zS) (o : Int) : Int :=
  if T.2.1 47 0 ≤ T.2.1 40 (48 + T.2.1 42 o / 64 % 16) then 0
  else if T.2.1 40 (T.2.1 42 o / 64 % 16) = T.2.1 42 o / 1024 % 8 then 0
  else 1
def y_cd (T : zS) (c : Nat) : Nat → Nat → zS
  | _, 0 => T
  | i, k + 1 => y_cd (if T.2.1 42 i % 8 = 1 ∧ T.2.1 42 i / 65536 = T.2.1 47 0 then y_co T c i else T) c (i + 1) k
def y_cdn (T : zS) (c : Nat) : Nat → Nat → Int
  | _, 0 => 0
  | i, k + 1 => (if T.2.1 42 i % 8 = 1 ∧ T.2.1 42 i / 65536 = T.2.1 47 0 then y_cob T i else 0) + y_cdn (if T.2.1 42 i % 8 = 1 ∧ T.2.1 42 i / 65536 = T.2.1 47 0 then y_co T c i else T) c (i + 1) k
def y_li1 (T : zS) (f : Int) : zS := y_ln f false (T.2.1 45 f).toNat ((T.2.1 47 2).toNat - (T.2.1 45 f).toNat) T
def y_li (T : zS) : Nat → Nat → zS
  | _, 0 => T
  | i, k + 1 => y_li (y_li1 T i) (i + 1) k
def y_tk (T : zS) : zS := z_sA T 47 0 (T.2.1 47 0 + 1)
def y_min (T : zS) (c : Nat) : zS := y_li (y_cd (y_tk T) c 0 c) 0 6
def y_minn (T : zS) (c : Nat) : Int := y_cdn (y_tk T) c 0 c
def y_ps (T : zS) (c : Nat) : Nat → zS
  | 0 => T
  | k + 1 => y_ps (y_min T c) c k
def y_psn (T : zS) (c : Nat) : Nat → Int
  | 0 => 0
  | k + 1 => y_minn T c + y_psn (y_min T c) c k
/-! the law's steps leave the class's rows -/
theorem zcl_gt {U X : zS} {i f : Int} (h : zcl U X) : zcl (y_gt U i f) X := zcl_w (zcl_w (zcl_w h (by omega)) (by omega)) (by omega)
theorem zcl_pay {U X : zS} {p t k : Int} (h : zcl U X) : zcl (y_pay U p t k) X := zcl_w (zcl_w h (by omega)) (by omega)
theorem zcl_dn {U X : zS} {o i w d : Int} (h : zcl U X) : zcl (y_dn U o i w d) X := zcl_w (zcl_gt (zcl_pay (zcl_w (zcl_w h (by omega)) (by omega)))) (by omega)
theorem zcl_co {U X : zS} {c : Nat} {o : Int} (h : zcl U X) : zcl (y_co U c o) X := by
  unfold y_co
  split
  · exact zcl_w h (by omega)
  · split
    · exact zcl_w h (by omega)
    · exact zcl_dn h
theorem zcl_cd {X : zS} {c : Nat} : ∀ (k i : Nat) (U : zS), zcl U X → zcl (y_cd U c i k) X
  | 0, _, _, h => h
  | k + 1, i, U, h => by
    rw [y_cd]
    refine zcl_cd k (i + 1) _ ?_
    split
    · exact zcl_co h
    · exact h
theorem zcl_ln {X : zS} {f : Int} {b : Bool} : ∀ (k a : Nat) (U : zS), zcl U X → zcl (y_ln f b a k U) X
  | 0, _, _, h => by rw [y_ln]; exact h
  | k + 1, a, U, h => by
    rw [y_ln]
    split
    · exact zcl_ln k (a + 1) _ (zcl_w (zcl_l h) (by omega))
    · exact h
theorem zcl_li {X : zS} : ∀ (k i : Nat) (U : zS), zcl U X → zcl (y_li U i k) X
  | 0, _, _, h => h
  | k + 1, i, U, h => by
    rw [y_li]
    exact zcl_li k (i + 1) _ (zcl_ln _ _ _ h)
theorem zcl_ps {X : zS} {c : Nat} : ∀ (k : Nat) (U : zS), zcl U X → zcl (y_ps U c k) X
  | 0, _, h => h
  | k + 1, U, h => by
    rw [y_ps]
    exact zcl_ps k _ (zcl_li _ _ _ (zcl_cd _ _ _ (zcl_w h (by omega))))
/-! the class's steps leave the law's rows -/
theorem zlw_co {S X : zS} {c : Nat} {o : Int} (h : zlw X S) : zlw (x_co X c o) S := by
  unfold x_co
  split
  · exact zlw_c h (by omega)
  · split
    · exact zlw_c h (by omega)
    · exact (zlw_pay.tr (zlw_c (zlw_mv.tr (zlw_c (zlw_c zlw.rf (by omega)) (by omega))) (by omega))).tr h
theorem zlw_cd {S : zS} {c : Nat} : ∀ (k i : Nat) (X : zS), zlw X S → zlw (x_cd X c i k) S
  | 0, _, _, h => h
  | k + 1, i, X, h => by
    rw [x_cd]
    refine zlw_cd k (i + 1) _ ?_
    split
    · exact zlw_co h
    · exact h
theorem zlw_lu {S : zS} {f m : Int} (hf : 0 ≤ f ∧ f < 6) : ∀ (k i : Nat) (X : zS), zlw X S → zlw (x_lu X f m i k) S
  | 0, i, X, h => by
    rw [x_lu]
    exact zlw_c h (by omega)
  | k + 1, i, X, h => by
    rw [x_lu]
    split
    · exact zlw_lu hf k (i + 1) _ (zlw_c h (by omega))
    · exact zlw_c h (by omega)
theorem zlw_li {S : zS} {c2 : Nat} : ∀ (k i : Nat) (X : zS), i + k = 6 → zlw X S → zlw (x_li X c2 i k) S
  | 0, _, _, _, h => h
  | k + 1, i, X, hi, h => by
    rw [x_li]
    refine zlw_li k (i + 1) _ (by omega) ?_
    unfold x_li1
    split
    · exact zlw_lu (by omega) _ _ _ h
    · exact h
theorem zlw_ps {S : zS} {c : Nat} : ∀ (k : Nat) (X : zS), zlw X S → zlw (x_ps X c k) S
  | 0, _, h => h
  | k + 1, X, h => by
    rw [x_ps]
    refine zlw_ps k _ ?_
    unfold x_min
    exact zlw_li _ _ _ (by omega) (zlw_cd _ _ _ (zlw_s h))
/-! how many wait -/
theorem z_ct_0 {p : Nat → Bool} : ∀ {n : Nat}, (∀ k, k < n → p k = false) → z_ct p n = 0
  | 0, _ => rfl
  | n + 1, h => by
    rw [z_ct, z_ct_0 (fun k hk => h k (by omega)), h n (by omega)]
    rfl
theorem z_ct_up1 {p q : Nat → Bool} {k n : Nat} (h : ∀ j, j < n → j ≠ k → q j = p j) : z_ct q n ≤ z_ct p n + 1 := by
  by_cases hk : k < n
  · cases e1 : p k <;> cases e2 : q k
    · rw [z_ct_cong (p := q) (q := p) (fun j a => by
        by_cases e : j = k
        · subst e; rw [e1, e2]
        · exact h j a e)]
      omega
    · have := z_ct_up hk h e1 e2
      omega
    · have := z_ct_up hk (fun j a b => (h j a b).symm) e2 e1
      omega
    · rw [z_ct_cong (p := q) (q := p) (fun j a => by
        by_cases e : j = k
        · subst e; rw [e1, e2]
        · exact h j a e)]
      omega
  · rw [z_ct_cong (p := q) (q := p) (fun j a => h j a (by omega))]
    omega
/-- as many as are pointed at, at most -/
theorem z_ct_inj {g : Nat → Int} {N : Nat} : ∀ (c : Nat) (p : Nat → Bool), (∀ k, k < N → p k = true → ∃ o : Nat, o < c ∧ g o = k) → z_ct p N ≤ c
  | 0, p, h => by
    rw [z_ct_0 (fun k hk => by
      cases e : p k
      · rfl
      · obtain ⟨o, q, _⟩ := h k hk e
        exact absurd q (by omega))]
    exact Nat.le_refl _
  | c + 1, p, h => by
    have h1 := z_ct_inj (g := g) (N := N) c (fun k => p k && !decide ((k : Int) = g c)) (fun k hk e => by
      have e' : p k = true ∧ ¬ (k : Int) = g c := by simpa using e
      obtain ⟨o, q1, q2⟩ := h k hk e'.1
      have : o ≠ c := fun w => e'.2 (by rw [← w, q2])
      exact ⟨o, by omega, q2⟩)
    have h2 := z_ct_up1 (p := fun k => p k && !decide ((k : Int) = g c)) (q := p) (k := (g c).toNat) (n := N) (fun j _ hj => by
      have : ¬ (j : Int) = g c := by omega
      simp [this])
    omega
theorem Rel.cw12 {X T : zS} (h : Rel X T) : x_cw X (X.1 1).toNat ≤ 12 := by
  have ho := h.ordr
  refine z_ct_inj (g := fun i => z_on (x_wf X (zdg i) (X.1 1).toNat)) 12 _ (fun k hk e => ?_)
  have e1 : X.2.1 19 k = 1 := of_decide_eq_true e
  have q := h.ors k (by omega) (by omega)
  have v := h.orv k (by omega) (by omega)
  refine ⟨(T.2.1 42 k / 64 % 16).toNat, by omega, ?_⟩
  show z_on (x_wf X (zdg ((T.2.1 42 k / 64 % 16).toNat : Nat)) (X.1 1).toNat) = k
  rw [show (((T.2.1 42 k / 64 % 16).toNat : Nat) : Int) = T.2.1 42 k / 64 % 16 by omega, ← q.2.2.1]
  cases ew : x_wf X (X.2.1 21 k) (X.1 1).toNat with
  | none =>
    have := z_first_none _ _ ew k (by omega) (by omega)
    exact absurd ⟨e1, rfl⟩ (of_decide_eq_false this)
  | some j =>
    have w := z_first_some _ _ _ ew
    have w2 := of_decide_eq_true w.2
    have := h.uniq j k (by omega) (by omega) (by omega) (by omega) w2.1 e1 w2.2
    exact this
theorem x_cw_cong {U S : zS} {c : Nat} (e : U.2.1 19 = S.2.1 19) : x_cw U c = x_cw S c := by
  unfold x_cw
  rw [e]
theorem x_cw_dn {U S : zS} {c : Nat} {o v : Int} (ho : 0 ≤ o ∧ o < c) (hw : S.2.1 19 o = 1) (hv : ¬ v = 1) (e : ∀ j, U.2.1 19 j = if j = o then v else S.2.1 19 j) : x_cw S c = x_cw U c + 1 := by
  obtain ⟨k, rfl⟩ : ∃ k : Nat, o = k := ⟨o.toNat, by omega⟩
  unfold x_cw
  refine z_ct_up (k := k) (by omega) (fun j _ hj => ?_) ?_ ?_
  · rw [e j, if_neg (by omega)]
  · rw [e k, if_pos rfl]
    exact decide_eq_false hv
  · exact decide_eq_true hw
theorem Rel.xP' {X T : zS} (h : Rel X T) : xP X (X.1 1).toNat := by
  have ho := h.ordr
  refine ⟨by omega, by omega, h.nowr, h.chgr, h.hisr, fun o a b => ?_, fun k a b => ?_, fun j a b => ?_, fun f a b => ?_⟩
  · have qs := h.ors o a (by omega)
    have qv := h.orv o a (by omega)
    have hd := zdg_rng (i := T.2.1 42 o / 64 % 16) (by omega)
    exact ⟨by omega, by omega, by omega, h.orw o a (by omega)⟩
  · by_cases c : ∃ i : Int, 0 ≤ i ∧ i < 12 ∧ k = zdg i
    · obtain ⟨i, i1, i2, e⟩ := c
      rw [e]
      exact (h.serv i i1 i2).2
    · rw [(h.oth k a b (fun i x y e => c ⟨i, x, y, e⟩)).1]
      omega
  · have q := h.cat j a b
    have hd := zdg_rng (i := T.2.1 44 j / 16384 % 16) (by omega)
    omega
  · have h1 := h.lrn f a b
    have h2 := h.flag f a b
    exact ⟨h1.2.1, h1.2.2, h2.2.2⟩
