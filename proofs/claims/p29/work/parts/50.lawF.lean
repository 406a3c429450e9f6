/-! ===== the law's cases: a firm ends ===== -/
def zmk (p : Nat → Bool) : Nat → Nat
  | 0 => 0
  | k + 1 => zmk p k + (if p k = true then 2 ^ k else 0)
theorem zmk_lt (p : Nat → Bool) : ∀ k, zmk p k < 2 ^ k
  | 0 => by rw [zmk]; decide
  | k + 1 => by
    have h := zmk_lt p k
    rw [zmk, Nat.pow_succ]
    split <;> omega
theorem zmk_bit (p : Nat → Bool) : ∀ k i, i < k → zmk p k / 2 ^ i % 2 = if p i = true then 1 else 0
  | 0, i, h => absurd h (by omega)
  | k + 1, i, h => by
    have hl := zmk_lt p k
    have hp : 0 < 2 ^ i := Nat.two_pow_pos i
    rw [zmk]
    by_cases c : i = k
    · subst c
      split
      · rw [Nat.add_div_right _ hp, Nat.div_eq_of_lt hl]
      · rw [Nat.add_zero, Nat.div_eq_of_lt hl]
    · have ih := zmk_bit p k i (by omega)
      split
      · obtain ⟨d, rfl⟩ : ∃ d, k = i + 1 + d := ⟨k - i - 1, by omega⟩
        rw [show 2 ^ (i + 1 + d) = 2 ^ i * (2 * 2 ^ d) by rw [Nat.pow_add, Nat.pow_succ, Nat.mul_assoc], Nat.add_mul_div_left _ _ hp, Nat.add_mul_mod_self_left]
        exact ih
      · exact ih
theorem z_p2 {j : Nat} (h : j < 12) : 2 ^ j ≤ 2048 := Nat.pow_le_pow_right (n := 2) (by decide) (show j ≤ 11 by omega)
theorem zmk_or {p : Nat → Bool} {j : Nat} (h : j < 12) : zOr (zmk p j : Int) (if p j = true then ((2 ^ j : Nat) : Int) else 0) = (zmk p (j + 1) : Int) := by
  have hl := zmk_lt p j
  have h2 := z_p2 h
  rw [zmk]
  split
  · refine (zOr_q (p := ((2 ^ j : Nat) : Int)) j rfl (by omega) Int.emod_self (by omega) (by omega) (by omega)).trans ?_
    omega
  · refine (zOr_q (p := 4096) 12 (by decide) (by omega) (by omega) (by omega) (by omega) (by omega)).trans ?_
    omega
theorem zShl_1 {j : Nat} (h : j < 12) : zShl 1 (j : Int) = ((2 ^ j : Nat) : Int) := by
  have h2 := z_p2 h
  have q := zShl_n (a := 1) (k := j) (by omega) (by omega)
  rw [Nat.one_mul] at q
  exact q
theorem zmk_get {p : Nat → Bool} {j : Nat} (h : j < 12) : zAnd (zShr (zmk p 12 : Int) (j : Int)) 1 = if p j = true then ((1 : Nat) : Int) else ((0 : Nat) : Int) := by
  have hl := zmk_lt p 12
  have hb := zmk_bit p 12 j h
  have h4 : zmk p 12 < 4096 := hl
  have e : zShr (zmk p 12 : Int) (j : Int) = ((zmk p 12 / 2 ^ j : Nat) : Int) := zShr_k (by omega) ⟨by omega, by omega⟩
  have hd : zmk p 12 / 2 ^ j ≤ zmk p 12 := Nat.div_le_self _ _
  rw [e, show (if p j = true then ((1 : Nat) : Int) else ((0 : Nat) : Int)) = ((if p j = true then 1 else 0 : Nat) : Int) by split <;> rfl, ← hb]
  generalize zmk p 12 / 2 ^ j = z at hd
  exact zAnd_m (p := 2) 1 (by decide) (by decide) (by omega) (by omega)
/-! frames -/
theorem y_hl_at {f h : Int} : ∀ (k b : Nat) (T : zS), (∀ q, q ≠ 7 → (y_hl f h b k T).2.1 q = T.2.1 q) ∧ (∀ j : Int, (y_hl f h b k T).2.1 7 j = if (b ≤ j ∧ j < (b + k : Nat)) ∧ T.2.1 7 j = f then h else T.2.1 7 j)
  | 0, b, T => by
    refine ⟨fun _ _ => rfl, fun j => ?_⟩
    rw [if_neg (by omega)]
    rfl
  | k + 1, b, T => by
    obtain ⟨g2, g4⟩ := y_hl_at (f := f) (h := h) k (b + 1) (z_sA T 7 b (if T.2.1 7 b = f then h else T.2.1 7 b))
    rw [y_hl]
    refine ⟨fun q hq => (g2 q hq).trans (funext fun j => za_ne hq), fun j => ?_⟩
    rw [g4 j]
    by_cases c : j = b
    · rw [c, za_eq, if_neg (by omega)]
      by_cases e : T.2.1 7 b = f
      · rw [if_pos e, if_pos ⟨by omega, e⟩]
      · rw [if_neg e, if_neg (fun w => e w.2)]
    · rw [za_ni c]
      have w2 : (((b + 1 : Nat) : Int) ≤ j ∧ j < ((b + 1 + k : Nat) : Int)) ↔ ((b : Int) ≤ j ∧ j < ((b + (k + 1) : Nat) : Int)) := by omega
      simp only [w2]
theorem y_gt_ne {T : zS} {i f : Int} {q : Nat} (h : q ≠ 40 ∧ q ≠ 44 ∧ q ≠ 47) : (y_gt T i f).2.1 q = T.2.1 q := funext fun j => by
  unfold y_gt
  rw [za_ne h.2.1, za_ne h.2.2, za_ne h.1]
theorem y_e1_ne {f h : Int} {S Y : zS} {i q : Nat} (hq : q ≠ 40 ∧ q ≠ 41 ∧ q ≠ 44 ∧ q ≠ 47) : (y_e1 f h S Y i).2.1 q = Y.2.1 q := by
  unfold y_e1
  split
  · split
    · exact funext fun j => by rw [za_ne hq.1, za_ne hq.2.1]
    · rw [y_gt_ne ⟨hq.1, hq.2.2.1, hq.2.2.2⟩]
      exact funext fun j => za_ne hq.2.1
  · split
    · exact y_gt_ne ⟨hq.1, hq.2.2.1, hq.2.2.2⟩
    · rfl
theorem y_el_ne {f h : Int} {S : zS} {q : Nat} (hq : q ≠ 40 ∧ q ≠ 41 ∧ q ≠ 44 ∧ q ≠ 47) : ∀ (k i : Nat) (Y : zS), (y_el f h S i k Y).2.1 q = Y.2.1 q
  | 0, _, _ => rfl
  | k + 1, i, Y => by rw [y_el, y_el_ne hq k (i + 1), y_e1_ne hq]
theorem y_cl_ne {f : Int} {q : Nat} (hq : q ≠ 42) : ∀ (k o : Nat) (T : zS), (y_cl f o k T).2.1 q = T.2.1 q
  | 0, _, _ => rfl
  | k + 1, o, T => by
    rw [y_cl, y_cl_ne hq k (o + 1)]
    split
    · exact funext fun j => za_ne hq
    · rfl
theorem zcl_hl {f h : Int} {X : zS} : ∀ (k b : Nat) (T : zS), zcl T X → zcl (y_hl f h b k T) X
  | 0, _, _, g => g
  | k + 1, b, T, g => by
    rw [y_hl]
    exact zcl_hl k (b + 1) _ (zcl_w g (by omega))
theorem zcl_el {f h : Int} {S X : zS} : ∀ (k i : Nat) (Y : zS), zcl Y X → zcl (y_el f h S i k Y) X
  | 0, _, _, g => g
  | k + 1, i, Y, g => by
    rw [y_el]
    refine zcl_el k (i + 1) _ ?_
    unfold y_e1
    split
    · split
      · exact zcl_w (zcl_w g (by omega)) (by omega)
      · exact zcl_gt (zcl_w g (by omega))
    · split
      · exact zcl_gt g
      · exact g
theorem zcl_cl {f : Int} {X : zS} : ∀ (k o : Nat) (T : zS), zcl T X → zcl (y_cl f o k T) X
  | 0, _, _, g => g
  | k + 1, o, T, g => by
    rw [y_cl]
    refine zcl_cl k (o + 1) _ ?_
    split
    · exact zcl_w g (by omega)
    · exact g
/-- what the law reads while it goes through the numbers -/
def zY (f e : Int) (S : zS) (j : Nat) (Y : zS) : Prop :=
  (∀ m : Int, j ≤ m → m < 12 → Y.2.1 40 m = S.2.1 40 m) ∧ (∀ b : Int, 0 ≤ b → b < 4 → Y.2.1 7 b = if S.2.1 7 b = f then e else S.2.1 7 b) ∧ (0 ≤ Y.2.1 47 2 ∧ Y.2.1 47 2 ≤ S.2.1 47 2 + j) ∧ Y.2.1 47 0 = S.2.1 47 0
theorem y_gt_47 {T : zS} {i f : Int} : (y_gt T i f).2.1 47 2 = T.2.1 47 2 + 1 ∧ (y_gt T i f).2.1 47 0 = T.2.1 47 0 := by
  unfold y_gt
  constructor
  · rw [za_ne (by omega), za_eq]
  · rw [za_ne (by omega), za_ni (by omega), za_ne (by omega)]
theorem zY.step {f e : Int} {S Y : zS} {j : Nat} (h : zY f e S j Y) : zY f e S (j + 1) (y_e1 f e S Y j) := by
  obtain ⟨h1, h2, h3, h4⟩ := h
  have hg : ∀ (T : zS) (m : Int), ¬ m = j → (y_gt T j e).2.1 40 m = T.2.1 40 m := fun T m hm => by
    unfold y_gt
    rw [za_ne (by omega), za_ne (by omega), za_ni hm]
  refine ⟨fun m a b => ?_, fun b x y => by rw [y_e1_ne (by omega)]; exact h2 b x y, ?_, ?_⟩
  · rw [← h1 m (by omega) b]
    unfold y_e1
    split
    · split
      · rw [za_ni (by omega), za_ne (by omega)]
      · rw [hg _ m (by omega), za_ne (by omega)]
    · split
      · exact hg _ m (by omega)
      · rfl
  · unfold y_e1
    split
    · split
      · rw [za_ne (by omega), za_ne (by omega)]
        omega
      · rw [y_gt_47.1, za_ne (by omega)]
        omega
    · split
      · rw [y_gt_47.1]
        omega
      · omega
  · unfold y_e1
    split
    · split
      · rw [za_ne (by omega), za_ne (by omega)]
        exact h4
      · rw [y_gt_47.2, za_ne (by omega)]
        exact h4
    · split
      · rw [y_gt_47.2]
        exact h4
      · exact h4
section
variable {hh : List (Nat × Nat × Nat × Nat)} {F : zF} {n : Nat} {S : zS} {v w i f e : Int}
theorem lc_ef1 {p q : Nat → Bool} (hn : n < 150) (hp : ∀ j : Nat, p j = decide (¬ S.2.1 40 j = -1 ∧ S.2.1 40 j = S.2.1 7 ((j : Int) / 3))) (hq : ∀ j : Nat, q j = decide (S.2.1 40 j = e ∧ S.2.1 7 ((j : Int) / 3) = f)) (hk : z_G (mLw hh) F (500 * n + 10) 1124 [some (zR 49), some (zR 0), some (zR 7), some (zR 40), some (zR 41), some (zR 42), some (zR 43), some (zR 44), some (zR 48), some (zR 45), some (zR 46), some (zR 47), some (zI (n : Int)), some (zI v), some (zI w), none, none, some (zI f), some (zI 1), none, none, none, none, none, none, some (zI e), some (zI 0), some (zI (zmk p 12 : Int)), some (zI (zmk q 12 : Int)), none, none, none, none, none, none, none, none, none, none, none, none, none, none, none, none, none, none, none, none, none] [] S) : ∀ (k j : Nat), j + k = 12 → z_G (mLw hh) F (500 * n + 10) 1044 [some (zR 49), some (zR 0), some (zR 7), some (zR 40), some (zR 41), some (zR 42), some (zR 43), some (zR 44), some (zR 48), some (zR 45), some (zR 46), some (zR 47), some (zI (n : Int)), some (zI v), some (zI w), none, none, some (zI f), some (zI 1), none, none, none, none, none, none, some (zI e), some (zI 0), some (zI (zmk p j : Int)), some (zI (zmk q j : Int)), some (zI (j : Int)), none, none, none, none, none, none, none, none, none, none, none, none, none, none, none, none, none, none, none, none] [] S := by
  intro k
  induction k with
  | zero =>
    intro j hj
    have ej : j = 12 := by omega
    subst ej
    refine g_iload (q := 1046) dL_law_1044 rfl rfl ?_
    refine g_bipush (q := 1048) dL_law_1046 rfl ⟨by decide, by decide⟩ (by decide) ?_
    refine g_icmp_ge (t := 1124) (q := 1051) dL_law_1048 (by decide) rfl (fun h1048 => ?_) (fun h1048 => (False.elim (by omega)))
    exact g_forget (z_sub_r (z_sub_r (z_sub_r (z_sub_r (z_sub_r (z_sub_r (z_sub_r (z_sub_r (z_sub_r (z_sub_r (z_sub_r (z_sub_r (z_sub_r (z_sub_r (z_sub_r (z_sub_n (z_sub_n (z_sub_r (z_sub_r (z_sub_n (z_sub_n (z_sub_n (z_sub_n (z_sub_n (z_sub_n (z_sub_r (z_sub_r (z_sub_r (z_sub_r (z_sub_n (z_sub_n (z_sub_n (z_sub_n (z_sub_n (z_sub_n (z_sub_n (z_sub_n (z_sub_n (z_sub_n (z_sub_n (z_sub_n (z_sub_n (z_sub_n (z_sub_n (z_sub_n (z_sub_n (z_sub_n (z_sub_n (z_sub_n (z_sub_n z_sub_0)))))))))))))))))))))))))))))))))))))))))))))))))) hk
  | succ k ih =>
    intro j hj
    have hnx := ih (j + 1) (by omega)
    have hop := zmk_or (p := p) (j := j) (by omega)
    have hoq := zmk_or (p := q) (j := j) (by omega)
    have hsh := zShl_1 (j := j) (by omega)
    obtain ⟨pb, epb⟩ : ∃ z, z = if p j = true then ((2 ^ j : Nat) : Int) else 0 := ⟨_, rfl⟩
    obtain ⟨qb, eqb⟩ : ∃ z, z = if q j = true then ((2 ^ j : Nat) : Int) else 0 := ⟨_, rfl⟩
    rw [← epb] at hop
    rw [← eqb] at hoq
    have p1 : (¬ S.2.1 40 j = -1 ∧ S.2.1 40 j = S.2.1 7 ((j : Int) / 3)) → ((2 ^ j : Nat) : Int) = pb := fun c => by
      rw [epb, hp j, if_pos (decide_eq_true c)]
    have p0 : ¬ (¬ S.2.1 40 j = -1 ∧ S.2.1 40 j = S.2.1 7 ((j : Int) / 3)) → 0 = pb := fun c => by
      rw [epb, hp j, if_neg (by rw [decide_eq_true_eq]; exact c)]
    have q1 : (S.2.1 40 j = e ∧ S.2.1 7 ((j : Int) / 3) = f) → ((2 ^ j : Nat) : Int) = qb := fun c => by
      rw [eqb, hq j, if_pos (decide_eq_true c)]
    have q0 : ¬ (S.2.1 40 j = e ∧ S.2.1 7 ((j : Int) / 3) = f) → 0 = qb := fun c => by
      rw [eqb, hq j, if_neg (by rw [decide_eq_true_eq]; exact c)]
    clear hp hq epb eqb hk ih
    have k15 : z_G (mLw hh) F (500 * n + 10) 1115 [some (zR 49), some (zR 0), some (zR 7), some (zR 40), some (zR 41), some (zR 42), some (zR 43), some (zR 44), some (zR 48), some (zR 45), some (zR 46), some (zR 47), some (zI (n : Int)), some (zI v), some (zI w), none, none, some (zI f), some (zI 1), none, none, none, none, none, none, some (zI e), some (zI 0), some (zI (zmk p (j + 1) : Int)), some (zI (zmk q j : Int)), some (zI (j : Int)), none, none, none, none, none, none, none, none, none, none, none, none, none, none, none, none, none, none, none, none] [zI qb, zI (zmk q j : Int)] S := by
      refine g_iorv (q := 1116) (z := (zmk q (j + 1) : Int)) dL_law_1115 rfl (hoq) ?_
      refine g_istore (q := 1118) dL_law_1116 rfl (Nat.le_of_ble_eq_true rfl) ?_
      refine g_iinc (q := 1121) (i := 29) (n := 1) dL_law_1118 rfl rfl (by constructor <;> omega) ?_
      refine g_goto (q := 0) (t := 1044) dL_law_1121 (by decide) ?_
      exact hnx
    have k82 : z_G (mLw hh) F (500 * n + 10) 1082 [some (zR 49), some (zR 0), some (zR 7), some (zR 40), some (zR 41), some (zR 42), some (zR 43), some (zR 44), some (zR 48), some (zR 45), some (zR 46), some (zR 47), some (zI (n : Int)), some (zI v), some (zI w), none, none, some (zI f), some (zI 1), none, none, none, none, none, none, some (zI e), some (zI 0), some (zI (zmk p j : Int)), some (zI (zmk q j : Int)), some (zI (j : Int)), none, none, none, none, none, none, none, none, none, none, none, none, none, none, none, none, none, none, none, none] [zI pb, zI (zmk p j : Int)] S := by
      refine g_iorv (q := 1083) (z := (zmk p (j + 1) : Int)) dL_law_1082 rfl (hop) ?_
      refine g_istore (q := 1085) dL_law_1083 rfl (Nat.le_of_ble_eq_true rfl) ?_
      refine g_iload (q := 1087) dL_law_1085 rfl rfl ?_
      refine g_aload_n (i := 3) (q := 1088) dL_law_1087 rfl rfl rfl ?_
      refine g_iload (q := 1090) dL_law_1088 rfl rfl ?_
      refine g_ildv (q := 1091) (z := S.2.1 40 (j : Int)) dL_law_1090 rfl ⟨by decide, rfl, rfl⟩ (by omega) (by omega) rfl ?_
      refine g_iload (q := 1093) dL_law_1091 rfl rfl ?_
      refine g_icmp_ne (t := 1114) (q := 1096) dL_law_1093 (by decide) rfl (fun h1093 => ?_) (fun h1093 => ?_)
      · refine g_iconst (q := 1115) dL_law_1114 rfl ⟨by decide, by decide⟩ ?_
        refine g_top (z := qb) ?_ k15
        first | exact q1 (by omega) | exact q0 (by omega)
      · refine g_aload_n (i := 2) (q := 1097) dL_law_1096 rfl rfl rfl ?_
        refine g_iload (q := 1099) dL_law_1097 rfl rfl ?_
        refine g_iconst (q := 1100) dL_law_1099 rfl ⟨by decide, by decide⟩ ?_
        refine g_idiv (q := 1101) dL_law_1100 rfl (by omega) (by omega) ?_
        refine g_ildv (q := 1102) (z := S.2.1 7 ((j : Int) / 3)) dL_law_1101 rfl ⟨by decide, rfl, rfl⟩ (by omega) (by omega) rfl ?_
        refine g_iload (q := 1104) dL_law_1102 rfl rfl ?_
        refine g_icmp_ne (t := 1114) (q := 1107) dL_law_1104 (by decide) rfl (fun h1104 => ?_) (fun h1104 => ?_)
        · refine g_iconst (q := 1115) dL_law_1114 rfl ⟨by decide, by decide⟩ ?_
          refine g_top (z := qb) ?_ k15
          first | exact q1 (by omega) | exact q0 (by omega)
        · refine g_iconst (q := 1108) dL_law_1107 rfl ⟨by decide, by decide⟩ ?_
          refine g_iload (q := 1110) dL_law_1108 rfl rfl ?_
          refine g_ishlv (q := 1111) (z := ((2 ^ j : Nat) : Int)) dL_law_1110 rfl (hsh) ?_
          refine g_goto (q := 0) (t := 1115) dL_law_1111 (by decide) ?_
          refine g_top (z := qb) ?_ k15
          first | exact q1 (by omega) | exact q0 (by omega)
    refine g_iload (q := 1046) dL_law_1044 rfl rfl ?_
    refine g_bipush (q := 1048) dL_law_1046 rfl ⟨by decide, by decide⟩ (by decide) ?_
    refine g_icmp_ge (t := 1124) (q := 1051) dL_law_1048 (by decide) rfl (fun h1048 => (False.elim (by omega))) (fun h1048 => ?_)
    refine g_iload (q := 1053) dL_law_1051 rfl rfl ?_
    refine g_aload_n (i := 3) (q := 1054) dL_law_1053 rfl rfl rfl ?_
    refine g_iload (q := 1056) dL_law_1054 rfl rfl ?_
    refine g_ildv (q := 1057) (z := S.2.1 40 (j : Int)) dL_law_1056 rfl ⟨by decide, rfl, rfl⟩ (by omega) (by omega) rfl ?_
    refine g_iconst (q := 1058) dL_law_1057 rfl ⟨by decide, by decide⟩ ?_
    refine g_icmp_eq (t := 1081) (q := 1061) dL_law_1058 (by decide) rfl (fun h1058 => ?_) (fun h1058 => ?_)
    · refine g_iconst (q := 1082) dL_law_1081 rfl ⟨by decide, by decide⟩ ?_
      refine g_top (z := pb) ?_ k82
      first | exact p1 (by omega) | exact p0 (by omega)
    · refine g_aload_n (i := 3) (q := 1062) dL_law_1061 rfl rfl rfl ?_
      refine g_iload (q := 1064) dL_law_1062 rfl rfl ?_
      refine g_ildv (q := 1065) (z := S.2.1 40 (j : Int)) dL_law_1064 rfl ⟨by decide, rfl, rfl⟩ (by omega) (by omega) rfl ?_
      refine g_aload_n (i := 2) (q := 1066) dL_law_1065 rfl rfl rfl ?_
      refine g_iload (q := 1068) dL_law_1066 rfl rfl ?_
      refine g_iconst (q := 1069) dL_law_1068 rfl ⟨by decide, by decide⟩ ?_
      refine g_idiv (q := 1070) dL_law_1069 rfl (by omega) (by omega) ?_
      refine g_ildv (q := 1071) (z := S.2.1 7 ((j : Int) / 3)) dL_law_1070 rfl ⟨by decide, rfl, rfl⟩ (by omega) (by omega) rfl ?_
      refine g_icmp_ne (t := 1081) (q := 1074) dL_law_1071 (by decide) rfl (fun h1071 => ?_) (fun h1071 => ?_)
      · refine g_iconst (q := 1082) dL_law_1081 rfl ⟨by decide, by decide⟩ ?_
        refine g_top (z := pb) ?_ k82
        first | exact p1 (by omega) | exact p0 (by omega)
      · refine g_iconst (q := 1075) dL_law_1074 rfl ⟨by decide, by decide⟩ ?_
        refine g_iload (q := 1077) dL_law_1075 rfl rfl ?_
        refine g_ishlv (q := 1078) (z := ((2 ^ j : Nat) : Int)) dL_law_1077 rfl (hsh) ?_
        refine g_goto (q := 0) (t := 1082) dL_law_1078 (by decide) ?_
        refine g_top (z := pb) ?_ k82
        first | exact p1 (by omega) | exact p0 (by omega)
theorem lc_ef2 {a b : Int} : ∀ (k j : Nat) (T : zS), j + k = 4 → z_G (mLw hh) F (500 * n + 10) 1161 [some (zR 49), some (zR 0), some (zR 7), some (zR 40), some (zR 41), some (zR 42), some (zR 43), some (zR 44), some (zR 48), some (zR 45), some (zR 46), some (zR 47), some (zI (n : Int)), some (zI v), some (zI w), none, none, some (zI f), some (zI 1), none, none, none, none, none, none, some (zI e), some (zI 0), some (zI a), some (zI b), none, none, none, none, none, none, none, none, none, none, none, none, none, none, none, none, none, none, none, none, none] [] (y_hl f e j k T) → z_G (mLw hh) F (500 * n + 10) 1127 [some (zR 49), some (zR 0), some (zR 7), some (zR 40), some (zR 41), some (zR 42), some (zR 43), some (zR 44), some (zR 48), some (zR 45), some (zR 46), some (zR 47), some (zI (n : Int)), some (zI v), some (zI w), none, none, some (zI f), some (zI 1), none, none, none, none, none, none, some (zI e), some (zI 0), some (zI a), some (zI b), some (zI (j : Int)), none, none, none, none, none, none, none, none, none, none, none, none, none, none, none, none, none, none, none, none] [] T := by
  intro k
  induction k with
  | zero =>
    intro j T hj hk
    rw [y_hl] at hk
    refine g_iload (q := 1129) dL_law_1127 rfl rfl ?_
    refine g_iconst (q := 1130) dL_law_1129 rfl ⟨by decide, by decide⟩ ?_
    refine g_icmp_ge (t := 1161) (q := 1133) dL_law_1130 (by decide) rfl (fun h1130 => ?_) (fun h1130 => (False.elim (by omega)))
    exact g_forget (z_sub_r (z_sub_r (z_sub_r (z_sub_r (z_sub_r (z_sub_r (z_sub_r (z_sub_r (z_sub_r (z_sub_r (z_sub_r (z_sub_r (z_sub_r (z_sub_r (z_sub_r (z_sub_n (z_sub_n (z_sub_r (z_sub_r (z_sub_n (z_sub_n (z_sub_n (z_sub_n (z_sub_n (z_sub_n (z_sub_r (z_sub_r (z_sub_r (z_sub_r (z_sub_n (z_sub_n (z_sub_n (z_sub_n (z_sub_n (z_sub_n (z_sub_n (z_sub_n (z_sub_n (z_sub_n (z_sub_n (z_sub_n (z_sub_n (z_sub_n (z_sub_n (z_sub_n (z_sub_n (z_sub_n (z_sub_n (z_sub_n (z_sub_n z_sub_0)))))))))))))))))))))))))))))))))))))))))))))))))) hk
  | succ k ih =>
    intro j T hj hk
    rw [y_hl] at hk
    have hnx := ih (j + 1) _ (by omega) hk
    by_cases c : T.2.1 7 j = f
    · rw [if_pos c] at hnx
      refine g_iload (q := 1129) dL_law_1127 rfl rfl ?_
      refine g_iconst (q := 1130) dL_law_1129 rfl ⟨by decide, by decide⟩ ?_
      refine g_icmp_ge (t := 1161) (q := 1133) dL_law_1130 (by decide) rfl (fun h1130 => (False.elim (by omega))) (fun h1130 => ?_)
      refine g_aload_n (i := 2) (q := 1134) dL_law_1133 rfl rfl rfl ?_
      refine g_iload (q := 1136) dL_law_1134 rfl rfl ?_
      refine g_aload_n (i := 2) (q := 1137) dL_law_1136 rfl rfl rfl ?_
      refine g_iload (q := 1139) dL_law_1137 rfl rfl ?_
      refine g_ildv (q := 1140) (z := T.2.1 7 (j : Int)) dL_law_1139 rfl ⟨by decide, rfl, rfl⟩ (by omega) (by omega) rfl ?_
      refine g_iload (q := 1142) dL_law_1140 rfl rfl ?_
      refine g_icmp_ne (t := 1150) (q := 1145) dL_law_1142 (by decide) rfl (fun h1142 => (False.elim (by omega))) (fun h1142 => ?_)
      refine g_iload (q := 1147) dL_law_1145 rfl rfl ?_
      refine g_goto (q := 0) (t := 1154) dL_law_1147 (by decide) ?_
      refine g_iast (q := 1155) dL_law_1154 rfl ⟨by decide, rfl, rfl⟩ (by omega) (by omega) ?_
      refine g_iinc (q := 1158) (i := 29) (n := 1) dL_law_1155 rfl rfl (by constructor <;> omega) ?_
      refine g_goto (q := 0) (t := 1127) dL_law_1158 (by decide) ?_
      exact hnx
    · rw [if_neg c] at hnx
      refine g_iload (q := 1129) dL_law_1127 rfl rfl ?_
      refine g_iconst (q := 1130) dL_law_1129 rfl ⟨by decide, by decide⟩ ?_
      refine g_icmp_ge (t := 1161) (q := 1133) dL_law_1130 (by decide) rfl (fun h1130 => (False.elim (by omega))) (fun h1130 => ?_)
      refine g_aload_n (i := 2) (q := 1134) dL_law_1133 rfl rfl rfl ?_
      refine g_iload (q := 1136) dL_law_1134 rfl rfl ?_
      refine g_aload_n (i := 2) (q := 1137) dL_law_1136 rfl rfl rfl ?_
      refine g_iload (q := 1139) dL_law_1137 rfl rfl ?_
      refine g_ildv (q := 1140) (z := T.2.1 7 (j : Int)) dL_law_1139 rfl ⟨by decide, rfl, rfl⟩ (by omega) (by omega) rfl ?_
      refine g_iload (q := 1142) dL_law_1140 rfl rfl ?_
      refine g_icmp_ne (t := 1150) (q := 1145) dL_law_1142 (by decide) rfl (fun h1142 => ?_) (fun h1142 => (False.elim (by omega)))
      refine g_aload_n (i := 2) (q := 1151) dL_law_1150 rfl rfl rfl ?_
      refine g_iload (q := 1153) dL_law_1151 rfl rfl ?_
      refine g_ildv (q := 1154) (z := T.2.1 7 (j : Int)) dL_law_1153 rfl ⟨by decide, rfl, rfl⟩ (by omega) (by omega) rfl ?_
      refine g_iast (q := 1155) dL_law_1154 rfl ⟨by decide, rfl, rfl⟩ (by omega) (by omega) ?_
      refine g_iinc (q := 1158) (i := 29) (n := 1) dL_law_1155 rfl rfl (by constructor <;> omega) ?_
      refine g_goto (q := 0) (t := 1127) dL_law_1158 (by decide) ?_
      exact hnx
theorem lc_ef3 {p q : Nat → Bool} (hn : n < 150) (hf : 0 ≤ f ∧ f < 6) (he : 0 ≤ e ∧ e < 6) (hfe : ¬ f = e) (hp : ∀ j : Nat, p j = decide (¬ S.2.1 40 j = -1 ∧ S.2.1 40 j = S.2.1 7 ((j : Int) / 3))) (hq : ∀ j : Nat, q j = decide (S.2.1 40 j = e ∧ S.2.1 7 ((j : Int) / 3) = f)) (hg : S.2.1 47 2 < 46) (hnr : 0 ≤ S.2.1 47 0 ∧ S.2.1 47 0 ≤ 9999) : ∀ (k j : Nat) (Y : zS) (cn : Int), j + k = 12 → zY f e S j Y → 0 ≤ cn ∧ cn ≤ j → z_G (mLw hh) F (500 * n + 10) 1266 [some (zR 49), some (zR 0), some (zR 7), some (zR 40), some (zR 41), some (zR 42), some (zR 43), some (zR 44), some (zR 48), some (zR 45), some (zR 46), some (zR 47), some (zI (n : Int)), some (zI v), some (zI w), none, none, some (zI f), some (zI 1), none, none, none, none, none, none, some (zI e), some (zI (cn + y_ec f S j k)), none, none, none, none, none, none, none, none, none, none, none, none, none, none, none, none, none, none, none, none, none, none, none] [] (y_el f e S j k Y) → z_G (mLw hh) F (500 * n + 10) 1164 [some (zR 49), some (zR 0), some (zR 7), some (zR 40), some (zR 41), some (zR 42), some (zR 43), some (zR 44), some (zR 48), some (zR 45), some (zR 46), some (zR 47), some (zI (n : Int)), some (zI v), some (zI w), none, none, some (zI f), some (zI 1), none, none, none, none, none, none, some (zI e), some (zI cn), some (zI (zmk p 12 : Int)), some (zI (zmk q 12 : Int)), some (zI (j : Int)), none, none, none, none, none, none, none, none, none, none, none, none, none, none, none, none, none, none, none, none] [] Y := by
  intro k
  induction k with
  | zero =>
    intro j Y cn hj hY hcn hk
    rw [y_ec, y_el, Int.add_zero] at hk
    refine g_iload (q := 1166) dL_law_1164 rfl rfl ?_
    refine g_bipush (q := 1168) dL_law_1166 rfl ⟨by decide, by decide⟩ (by decide) ?_
    refine g_icmp_ge (t := 1266) (q := 1171) dL_law_1168 (by decide) rfl (fun h1168 => ?_) (fun h1168 => (False.elim (by omega)))
    exact g_forget (z_sub_r (z_sub_r (z_sub_r (z_sub_r (z_sub_r (z_sub_r (z_sub_r (z_sub_r (z_sub_r (z_sub_r (z_sub_r (z_sub_r (z_sub_r (z_sub_r (z_sub_r (z_sub_n (z_sub_n (z_sub_r (z_sub_r (z_sub_n (z_sub_n (z_sub_n (z_sub_n (z_sub_n (z_sub_n (z_sub_r (z_sub_r (z_sub_n (z_sub_n (z_sub_n (z_sub_n (z_sub_n (z_sub_n (z_sub_n (z_sub_n (z_sub_n (z_sub_n (z_sub_n (z_sub_n (z_sub_n (z_sub_n (z_sub_n (z_sub_n (z_sub_n (z_sub_n (z_sub_n (z_sub_n (z_sub_n (z_sub_n (z_sub_n z_sub_0)))))))))))))))))))))))))))))))))))))))))))))))))) hk
  | succ k ih =>
    intro j Y cn hj hY hcn hk
    rw [y_ec, y_el, ← Int.add_assoc] at hk
    have hnx := ih (j + 1) _ (cn + if S.2.1 40 j = f then 1 else 0) (by omega) hY.step (by split <;> omega) hk
    clear ih hk
    obtain ⟨y1, y2, y3, y4⟩ := hY
    have y40 := y1 j (by omega) (by omega)
    have y7 := y2 ((j : Int) / 3) (by omega) (by omega)
    have hpg := zmk_get (p := p) (j := j) (by omega)
    have hqg := zmk_get (p := q) (j := j) (by omega)
    rw [hp j] at hpg
    rw [hq j] at hqg
    unfold y_e1 at hnx
    by_cases c1 : S.2.1 40 j = f
    · rw [if_neg (by rw [decide_eq_true_eq]; omega)] at hqg
      by_cases c2 : S.2.1 7 ((j : Int) / 3) = f
      · rw [if_pos c1, if_pos c1, if_pos c2] at hnx
        rw [if_pos (by rw [decide_eq_true_eq]; omega)] at hpg
        rw [if_pos c2] at y7
        refine g_iload (q := 1166) dL_law_1164 rfl rfl ?_
        refine g_bipush (q := 1168) dL_law_1166 rfl ⟨by decide, by decide⟩ (by decide) ?_
        refine g_icmp_ge (t := 1266) (q := 1171) dL_law_1168 (by decide) rfl (fun h1168 => (False.elim (by omega))) (fun h1168 => ?_)
        refine g_iload (q := 1173) dL_law_1171 rfl rfl ?_
        refine g_iload (q := 1175) dL_law_1173 rfl rfl ?_
        refine g_ishrv (q := 1176) (z := zShr (zmk q 12 : Int) (j : Int)) dL_law_1175 rfl (rfl) ?_
        refine g_iconst (q := 1177) dL_law_1176 rfl ⟨by decide, by decide⟩ ?_
        refine g_iandv (q := 1178) (z := 0) dL_law_1177 rfl (hqg) ?_
        refine g_iconst (q := 1179) dL_law_1178 rfl ⟨by decide, by decide⟩ ?_
        refine g_icmp_ne (t := 1195) (q := 1182) dL_law_1179 (by decide) rfl (fun h1179 => ?_) (fun h1179 => (False.elim (by omega)))
        refine g_aload_n (i := 3) (q := 1196) dL_law_1195 rfl rfl rfl ?_
        refine g_iload (q := 1198) dL_law_1196 rfl rfl ?_
        refine g_ildv (q := 1199) (z := Y.2.1 40 (j : Int)) dL_law_1198 rfl ⟨by decide, rfl, rfl⟩ (by omega) (by omega) rfl ?_
        refine g_iload (q := 1201) dL_law_1199 rfl rfl ?_
        refine g_icmp_eq (t := 1207) (q := 1204) dL_law_1201 (by decide) rfl (fun h1201 => ?_) (fun h1201 => (False.elim (by omega)))
        refine g_iinc (q := 1210) (i := 26) (n := 1) dL_law_1207 rfl rfl (by constructor <;> omega) ?_
        refine g_aload (q := 1212) dL_law_1210 rfl rfl ?_
        refine g_iload (q := 1214) dL_law_1212 rfl rfl ?_
        refine g_iconst (q := 1215) dL_law_1214 rfl ⟨by decide, by decide⟩ ?_
        refine g_iast (q := 1216) dL_law_1215 rfl ⟨by decide, rfl, rfl⟩ (by omega) (by omega) ?_
        refine g_iload (q := 1218) dL_law_1216 rfl rfl ?_
        refine g_iload (q := 1220) dL_law_1218 rfl rfl ?_
        refine g_ishrv (q := 1221) (z := zShr (zmk p 12 : Int) (j : Int)) dL_law_1220 rfl (rfl) ?_
        refine g_iconst (q := 1222) dL_law_1221 rfl ⟨by decide, by decide⟩ ?_
        refine g_iandv (q := 1223) (z := 1) dL_law_1222 rfl (hpg) ?_
        refine g_iconst (q := 1224) dL_law_1223 rfl ⟨by decide, by decide⟩ ?_
        refine g_icmp_ne (t := 1247) (q := 1227) dL_law_1224 (by decide) rfl (fun h1224 => (False.elim (by omega))) (fun h1224 => ?_)
        refine g_aload_n (i := 2) (q := 1228) dL_law_1227 rfl rfl rfl ?_
        refine g_iload (q := 1230) dL_law_1228 rfl rfl ?_
        refine g_iconst (q := 1231) dL_law_1230 rfl ⟨by decide, by decide⟩ ?_
        refine g_idiv (q := 1232) dL_law_1231 rfl (by omega) (by omega) ?_
        refine g_ildv (q := 1233) (z := Y.2.1 7 ((j : Int) / 3)) dL_law_1232 rfl ⟨by decide, rfl, rfl⟩ (by omega) (by omega) rfl ?_
        refine g_iload (q := 1235) dL_law_1233 rfl rfl ?_
        refine g_icmp_ne (t := 1247) (q := 1238) dL_law_1235 (by decide) rfl (fun h1235 => (False.elim (by omega))) (fun h1235 => ?_)
        refine g_aload_n (i := 3) (q := 1239) dL_law_1238 rfl rfl rfl ?_
        refine g_iload (q := 1241) dL_law_1239 rfl rfl ?_
        refine g_iload (q := 1243) dL_law_1241 rfl rfl ?_
        refine g_iast (q := 1244) dL_law_1243 rfl ⟨by decide, rfl, rfl⟩ (by omega) (by omega) ?_
        refine g_goto (q := 0) (t := 1260) dL_law_1244 (by decide) ?_
        refine g_iinc (q := 1263) (i := 29) (n := 1) dL_law_1260 rfl rfl (by constructor <;> omega) ?_
        refine g_goto (q := 0) (t := 1164) dL_law_1263 (by decide) ?_
        exact hnx
      · rw [if_pos c1, if_pos c1, if_neg c2] at hnx
        rw [if_neg (by rw [decide_eq_true_eq]; omega)] at hpg
        have hgt := s_L_goesTo (T := z_sA Y 41 j (-1)) (i := j) (f := e) (by omega) he (show 0 ≤ Y.2.1 47 2 ∧ Y.2.1 47 2 < 64 by omega) (show 0 ≤ Y.2.1 47 0 ∧ Y.2.1 47 0 ≤ 9999 by omega)
        refine g_iload (q := 1166) dL_law_1164 rfl rfl ?_
        refine g_bipush (q := 1168) dL_law_1166 rfl ⟨by decide, by decide⟩ (by decide) ?_
        refine g_icmp_ge (t := 1266) (q := 1171) dL_law_1168 (by decide) rfl (fun h1168 => (False.elim (by omega))) (fun h1168 => ?_)
        refine g_iload (q := 1173) dL_law_1171 rfl rfl ?_
        refine g_iload (q := 1175) dL_law_1173 rfl rfl ?_
        refine g_ishrv (q := 1176) (z := zShr (zmk q 12 : Int) (j : Int)) dL_law_1175 rfl (rfl) ?_
        refine g_iconst (q := 1177) dL_law_1176 rfl ⟨by decide, by decide⟩ ?_
        refine g_iandv (q := 1178) (z := 0) dL_law_1177 rfl (hqg) ?_
        refine g_iconst (q := 1179) dL_law_1178 rfl ⟨by decide, by decide⟩ ?_
        refine g_icmp_ne (t := 1195) (q := 1182) dL_law_1179 (by decide) rfl (fun h1179 => ?_) (fun h1179 => (False.elim (by omega)))
        refine g_aload_n (i := 3) (q := 1196) dL_law_1195 rfl rfl rfl ?_
        refine g_iload (q := 1198) dL_law_1196 rfl rfl ?_
        refine g_ildv (q := 1199) (z := Y.2.1 40 (j : Int)) dL_law_1198 rfl ⟨by decide, rfl, rfl⟩ (by omega) (by omega) rfl ?_
        refine g_iload (q := 1201) dL_law_1199 rfl rfl ?_
        refine g_icmp_eq (t := 1207) (q := 1204) dL_law_1201 (by decide) rfl (fun h1201 => ?_) (fun h1201 => (False.elim (by omega)))
        refine g_iinc (q := 1210) (i := 26) (n := 1) dL_law_1207 rfl rfl (by constructor <;> omega) ?_
        refine g_aload (q := 1212) dL_law_1210 rfl rfl ?_
        refine g_iload (q := 1214) dL_law_1212 rfl rfl ?_
        refine g_iconst (q := 1215) dL_law_1214 rfl ⟨by decide, by decide⟩ ?_
        refine g_iast (q := 1216) dL_law_1215 rfl ⟨by decide, rfl, rfl⟩ (by omega) (by omega) ?_
        refine g_iload (q := 1218) dL_law_1216 rfl rfl ?_
        refine g_iload (q := 1220) dL_law_1218 rfl rfl ?_
        refine g_ishrv (q := 1221) (z := zShr (zmk p 12 : Int) (j : Int)) dL_law_1220 rfl (rfl) ?_
        refine g_iconst (q := 1222) dL_law_1221 rfl ⟨by decide, by decide⟩ ?_
        refine g_iandv (q := 1223) (z := 0) dL_law_1222 rfl (hpg) ?_
        refine g_iconst (q := 1224) dL_law_1223 rfl ⟨by decide, by decide⟩ ?_
        refine g_icmp_ne (t := 1247) (q := 1227) dL_law_1224 (by decide) rfl (fun h1224 => ?_) (fun h1224 => (False.elim (by omega)))
        refine g_iload (q := 1249) dL_law_1247 rfl rfl ?_
        refine g_iload (q := 1251) dL_law_1249 rfl rfl ?_
        refine g_aload_n (i := 2) (q := 1252) dL_law_1251 rfl rfl rfl ?_
        refine g_aload_n (i := 3) (q := 1253) dL_law_1252 rfl rfl rfl ?_
        refine g_aload (q := 1255) dL_law_1253 rfl rfl ?_
        refine g_aload (q := 1257) dL_law_1255 rfl rfl ?_
        refine g_fnS (as := [zI (j : Int), zI e, zR 7, zR 40, zR 44, zR 47]) (q := 1260) (u' := 500 * n + 10) dL_law_1257 rfl ck_L_198 rfl rfl (Nat.le_of_ble_eq_true rfl) ⟨Nat.le_of_ble_eq_true rfl, Nat.le_of_ble_eq_true rfl⟩ rfl (show 500 * n + 10 ≤ 100000 by omega) (hgt) rfl ?_
        refine g_iinc (q := 1263) (i := 29) (n := 1) dL_law_1260 rfl rfl (by constructor <;> omega) ?_
        refine g_goto (q := 0) (t := 1164) dL_law_1263 (by decide) ?_
        exact hnx
    · rw [if_neg c1, Int.add_zero, if_neg c1] at hnx
      by_cases c2 : S.2.1 40 j = e ∧ S.2.1 7 ((j : Int) / 3) = f
      · rw [if_pos c2] at hnx
        rw [if_pos (by rw [decide_eq_true_eq]; exact c2)] at hqg
        have hgt := s_L_goesTo (T := Y) (i := j) (f := e) (by omega) he (by omega) (by omega)
        have g40 : (y_gt Y j e).2.1 40 j = e := by
          unfold y_gt
          rw [za_ne (by omega), za_ne (by omega), za_eq]
        refine g_iload (q := 1166) dL_law_1164 rfl rfl ?_
        refine g_bipush (q := 1168) dL_law_1166 rfl ⟨by decide, by decide⟩ (by decide) ?_
        refine g_icmp_ge (t := 1266) (q := 1171) dL_law_1168 (by decide) rfl (fun h1168 => (False.elim (by omega))) (fun h1168 => ?_)
        refine g_iload (q := 1173) dL_law_1171 rfl rfl ?_
        refine g_iload (q := 1175) dL_law_1173 rfl rfl ?_
        refine g_ishrv (q := 1176) (z := zShr (zmk q 12 : Int) (j : Int)) dL_law_1175 rfl (rfl) ?_
        refine g_iconst (q := 1177) dL_law_1176 rfl ⟨by decide, by decide⟩ ?_
        refine g_iandv (q := 1178) (z := 1) dL_law_1177 rfl (hqg) ?_
        refine g_iconst (q := 1179) dL_law_1178 rfl ⟨by decide, by decide⟩ ?_
        refine g_icmp_ne (t := 1195) (q := 1182) dL_law_1179 (by decide) rfl (fun h1179 => (False.elim (by omega))) (fun h1179 => ?_)
        refine g_iload (q := 1184) dL_law_1182 rfl rfl ?_
        refine g_iload (q := 1186) dL_law_1184 rfl rfl ?_
        refine g_aload_n (i := 2) (q := 1187) dL_law_1186 rfl rfl rfl ?_
        refine g_aload_n (i := 3) (q := 1188) dL_law_1187 rfl rfl rfl ?_
        refine g_aload (q := 1190) dL_law_1188 rfl rfl ?_
        refine g_aload (q := 1192) dL_law_1190 rfl rfl ?_
        refine g_fnS (as := [zI (j : Int), zI e, zR 7, zR 40, zR 44, zR 47]) (q := 1195) (u' := 500 * n + 10) dL_law_1192 rfl ck_L_198 rfl rfl (Nat.le_of_ble_eq_true rfl) ⟨Nat.le_of_ble_eq_true rfl, Nat.le_of_ble_eq_true rfl⟩ rfl (show 500 * n + 10 ≤ 100000 by omega) (hgt) rfl ?_
        refine g_aload_n (i := 3) (q := 1196) dL_law_1195 rfl rfl rfl ?_
        refine g_iload (q := 1198) dL_law_1196 rfl rfl ?_
        refine g_ildv (q := 1199) (z := e) dL_law_1198 rfl ⟨by decide, rfl, rfl⟩ (by omega) (by omega) g40 ?_
        refine g_iload (q := 1201) dL_law_1199 rfl rfl ?_
        refine g_icmp_eq (t := 1207) (q := 1204) dL_law_1201 (by decide) rfl (fun h1201 => (False.elim (by omega))) (fun h1201 => ?_)
        refine g_goto (q := 0) (t := 1260) dL_law_1204 (by decide) ?_
        refine g_iinc (q := 1263) (i := 29) (n := 1) dL_law_1260 rfl rfl (by constructor <;> omega) ?_
        refine g_goto (q := 0) (t := 1164) dL_law_1263 (by decide) ?_
        exact hnx
      · rw [if_neg c2] at hnx
        rw [if_neg (by rw [decide_eq_true_eq]; exact c2)] at hqg
        refine g_iload (q := 1166) dL_law_1164 rfl rfl ?_
        refine g_bipush (q := 1168) dL_law_1166 rfl ⟨by decide, by decide⟩ (by decide) ?_
        refine g_icmp_ge (t := 1266) (q := 1171) dL_law_1168 (by decide) rfl (fun h1168 => (False.elim (by omega))) (fun h1168 => ?_)
        refine g_iload (q := 1173) dL_law_1171 rfl rfl ?_
        refine g_iload (q := 1175) dL_law_1173 rfl rfl ?_
        refine g_ishrv (q := 1176) (z := zShr (zmk q 12 : Int) (j : Int)) dL_law_1175 rfl (rfl) ?_
        refine g_iconst (q := 1177) dL_law_1176 rfl ⟨by decide, by decide⟩ ?_
        refine g_iandv (q := 1178) (z := 0) dL_law_1177 rfl (hqg) ?_
        refine g_iconst (q := 1179) dL_law_1178 rfl ⟨by decide, by decide⟩ ?_
        refine g_icmp_ne (t := 1195) (q := 1182) dL_law_1179 (by decide) rfl (fun h1179 => ?_) (fun h1179 => (False.elim (by omega)))
        refine g_aload_n (i := 3) (q := 1196) dL_law_1195 rfl rfl rfl ?_
        refine g_iload (q := 1198) dL_law_1196 rfl rfl ?_
        refine g_ildv (q := 1199) (z := Y.2.1 40 (j : Int)) dL_law_1198 rfl ⟨by decide, rfl, rfl⟩ (by omega) (by omega) rfl ?_
        refine g_iload (q := 1201) dL_law_1199 rfl rfl ?_
        refine g_icmp_eq (t := 1207) (q := 1204) dL_law_1201 (by decide) rfl (fun h1201 => (False.elim (by omega))) (fun h1201 => ?_)
        refine g_goto (q := 0) (t := 1260) dL_law_1204 (by decide) ?_
        refine g_iinc (q := 1263) (i := 29) (n := 1) dL_law_1260 rfl rfl (by constructor <;> omega) ?_
        refine g_goto (q := 0) (t := 1164) dL_law_1263 (by decide) ?_
        exact hnx
theorem lc_ef4 {c : Nat} {cn : Int} (hn : n < 150) : ∀ (k o : Nat) (T : zS), o + k = c → yO T c → z_G (mLw hh) F (500 * n + 10) 1318 [some (zR 49), some (zR 0), some (zR 7), some (zR 40), some (zR 41), some (zR 42), some (zR 43), some (zR 44), some (zR 48), some (zR 45), some (zR 46), some (zR 47), some (zI (n : Int)), some (zI v), some (zI w), none, none, some (zI f), some (zI 1), none, none, none, none, none, none, some (zI e), some (zI cn), none, none, none, none, none, none, none, none, none, none, none, none, none, none, none, none, none, none, none, none, none, none, none] [] (y_cl f o k T) → z_G (mLw hh) F (500 * n + 10) 1269 [some (zR 49), some (zR 0), some (zR 7), some (zR 40), some (zR 41), some (zR 42), some (zR 43), some (zR 44), some (zR 48), some (zR 45), some (zR 46), some (zR 47), some (zI (n : Int)), some (zI v), some (zI w), none, none, some (zI f), some (zI 1), none, none, none, none, none, none, some (zI e), some (zI cn), none, none, some (zI (o : Int)), none, none, none, none, none, none, none, none, none, none, none, none, none, none, none, none, none, none, none, none] [] T := by
  intro k
  induction k with
  | zero =>
    intro o T ho hO hk
    obtain ⟨o1, o2, o3⟩ := id hO
    rw [y_cl] at hk
    refine g_iload (q := 1271) dL_law_1269 rfl rfl ?_
    refine g_aload (q := 1273) dL_law_1271 rfl rfl ?_
    refine g_iconst (q := 1274) dL_law_1273 rfl ⟨by decide, by decide⟩ ?_
    refine g_ildv (q := 1275) (z := T.2.1 47 1) dL_law_1274 rfl ⟨by decide, rfl, rfl⟩ (by omega) (by omega) rfl ?_
    refine g_icmp_ge (t := 1318) (q := 1278) dL_law_1275 (by decide) rfl (fun h1275 => ?_) (fun h1275 => (False.elim (by omega)))
    exact g_forget (z_sub_r (z_sub_r (z_sub_r (z_sub_r (z_sub_r (z_sub_r (z_sub_r (z_sub_r (z_sub_r (z_sub_r (z_sub_r (z_sub_r (z_sub_r (z_sub_r (z_sub_r (z_sub_n (z_sub_n (z_sub_r (z_sub_r (z_sub_n (z_sub_n (z_sub_n (z_sub_n (z_sub_n (z_sub_n (z_sub_r (z_sub_r (z_sub_n (z_sub_n (z_sub_n (z_sub_n (z_sub_n (z_sub_n (z_sub_n (z_sub_n (z_sub_n (z_sub_n (z_sub_n (z_sub_n (z_sub_n (z_sub_n (z_sub_n (z_sub_n (z_sub_n (z_sub_n (z_sub_n (z_sub_n (z_sub_n (z_sub_n (z_sub_n z_sub_0)))))))))))))))))))))))))))))))))))))))))))))))))) hk
  | succ k ih =>
    intro o T ho hO hk
    obtain ⟨o1, o2, o3⟩ := id hO
    have o4 := o3 o (by omega) (by omega)
    rw [y_cl] at hk
    by_cases c1 : T.2.1 42 o % 8 = 1 ∧ T.2.1 42 o / 1024 % 8 = f
    · rw [if_pos c1] at hk
      have hnx := ih (o + 1) (z_sA T 42 o (T.2.1 42 o + 2)) (by omega) ⟨o1, o2, fun a x y => by
        by_cases ca : a = o
        · rw [ca, za_eq]
          omega
        · rw [za_ni ca]
          exact o3 a x y⟩ hk
      refine g_iload (q := 1271) dL_law_1269 rfl rfl ?_
      refine g_aload (q := 1273) dL_law_1271 rfl rfl ?_
      refine g_iconst (q := 1274) dL_law_1273 rfl ⟨by decide, by decide⟩ ?_
      refine g_ildv (q := 1275) (z := T.2.1 47 1) dL_law_1274 rfl ⟨by decide, rfl, rfl⟩ (by omega) (by omega) rfl ?_
      refine g_icmp_ge (t := 1318) (q := 1278) dL_law_1275 (by decide) rfl (fun h1275 => (False.elim (by omega))) (fun h1275 => ?_)
      refine g_aload (q := 1280) dL_law_1278 rfl rfl ?_
      refine g_iload (q := 1282) dL_law_1280 rfl rfl ?_
      refine g_ildv (q := 1283) (z := T.2.1 42 (o : Int)) dL_law_1282 rfl ⟨by decide, rfl, rfl⟩ (by omega) (by omega) rfl ?_
      refine g_fnS (as := [zI (T.2.1 42 (o : Int))]) (q := 1286) (u' := 500 * n + 10) dL_law_1283 rfl ck_L_96 rfl rfl (Nat.le_of_ble_eq_true rfl) ⟨Nat.le_of_ble_eq_true rfl, Nat.le_of_ble_eq_true rfl⟩ rfl (show 500 * n + 10 ≤ 100000 by omega) (s_L_state (by omega)) rfl ?_
      refine g_iconst (q := 1287) dL_law_1286 rfl ⟨by decide, by decide⟩ ?_
      refine g_icmp_ne (t := 1312) (q := 1290) dL_law_1287 (by decide) rfl (fun h1287 => (False.elim (by omega))) (fun h1287 => ?_)
      refine g_aload (q := 1292) dL_law_1290 rfl rfl ?_
      refine g_iload (q := 1294) dL_law_1292 rfl rfl ?_
      refine g_ildv (q := 1295) (z := T.2.1 42 (o : Int)) dL_law_1294 rfl ⟨by decide, rfl, rfl⟩ (by omega) (by omega) rfl ?_
      refine g_fnS (as := [zI (T.2.1 42 (o : Int))]) (q := 1298) (u' := 500 * n + 10) dL_law_1295 rfl ck_L_157 rfl rfl (Nat.le_of_ble_eq_true rfl) ⟨Nat.le_of_ble_eq_true rfl, Nat.le_of_ble_eq_true rfl⟩ rfl (show 500 * n + 10 ≤ 100000 by omega) (s_L_winner (by omega)) rfl ?_
      refine g_iload (q := 1300) dL_law_1298 rfl rfl ?_
      refine g_icmp_ne (t := 1312) (q := 1303) dL_law_1300 (by decide) rfl (fun h1300 => (False.elim (by omega))) (fun h1300 => ?_)
      refine g_aload (q := 1305) dL_law_1303 rfl rfl ?_
      refine g_iload (q := 1307) dL_law_1305 rfl rfl ?_
      refine g_dup2 (q := 1308) dL_law_1307 rfl trivial trivial ?_
      refine g_ildv (q := 1309) (z := T.2.1 42 (o : Int)) dL_law_1308 rfl ⟨by decide, rfl, rfl⟩ (by omega) (by omega) rfl ?_
      refine g_iconst (q := 1310) dL_law_1309 rfl ⟨by decide, by decide⟩ ?_
      refine g_iadd (q := 1311) dL_law_1310 rfl (by constructor <;> omega) ?_
      refine g_iast (q := 1312) dL_law_1311 rfl ⟨by decide, rfl, rfl⟩ (by omega) (by omega) ?_
      refine g_iinc (q := 1315) (i := 29) (n := 1) dL_law_1312 rfl rfl (by constructor <;> omega) ?_
      refine g_goto (q := 0) (t := 1269) dL_law_1315 (by decide) ?_
      exact hnx
    · rw [if_neg c1] at hk
      have hnx := ih (o + 1) _ (by omega) hO hk
      by_cases c2 : T.2.1 42 o % 8 = 1
      · skip
        refine g_iload (q := 1271) dL_law_1269 rfl rfl ?_
        refine g_aload (q := 1273) dL_law_1271 rfl rfl ?_
        refine g_iconst (q := 1274) dL_law_1273 rfl ⟨by decide, by decide⟩ ?_
        refine g_ildv (q := 1275) (z := T.2.1 47 1) dL_law_1274 rfl ⟨by decide, rfl, rfl⟩ (by omega) (by omega) rfl ?_
        refine g_icmp_ge (t := 1318) (q := 1278) dL_law_1275 (by decide) rfl (fun h1275 => (False.elim (by omega))) (fun h1275 => ?_)
        refine g_aload (q := 1280) dL_law_1278 rfl rfl ?_
        refine g_iload (q := 1282) dL_law_1280 rfl rfl ?_
        refine g_ildv (q := 1283) (z := T.2.1 42 (o : Int)) dL_law_1282 rfl ⟨by decide, rfl, rfl⟩ (by omega) (by omega) rfl ?_
        refine g_fnS (as := [zI (T.2.1 42 (o : Int))]) (q := 1286) (u' := 500 * n + 10) dL_law_1283 rfl ck_L_96 rfl rfl (Nat.le_of_ble_eq_true rfl) ⟨Nat.le_of_ble_eq_true rfl, Nat.le_of_ble_eq_true rfl⟩ rfl (show 500 * n + 10 ≤ 100000 by omega) (s_L_state (by omega)) rfl ?_
        refine g_iconst (q := 1287) dL_law_1286 rfl ⟨by decide, by decide⟩ ?_
        refine g_icmp_ne (t := 1312) (q := 1290) dL_law_1287 (by decide) rfl (fun h1287 => (False.elim (by omega))) (fun h1287 => ?_)
        refine g_aload (q := 1292) dL_law_1290 rfl rfl ?_
        refine g_iload (q := 1294) dL_law_1292 rfl rfl ?_
        refine g_ildv (q := 1295) (z := T.2.1 42 (o : Int)) dL_law_1294 rfl ⟨by decide, rfl, rfl⟩ (by omega) (by omega) rfl ?_
        refine g_fnS (as := [zI (T.2.1 42 (o : Int))]) (q := 1298) (u' := 500 * n + 10) dL_law_1295 rfl ck_L_157 rfl rfl (Nat.le_of_ble_eq_true rfl) ⟨Nat.le_of_ble_eq_true rfl, Nat.le_of_ble_eq_true rfl⟩ rfl (show 500 * n + 10 ≤ 100000 by omega) (s_L_winner (by omega)) rfl ?_
        refine g_iload (q := 1300) dL_law_1298 rfl rfl ?_
        refine g_icmp_ne (t := 1312) (q := 1303) dL_law_1300 (by decide) rfl (fun h1300 => ?_) (fun h1300 => (False.elim (by omega)))
        refine g_iinc (q := 1315) (i := 29) (n := 1) dL_law_1312 rfl rfl (by constructor <;> omega) ?_
        refine g_goto (q := 0) (t := 1269) dL_law_1315 (by decide) ?_
        exact hnx
      · skip
        refine g_iload (q := 1271) dL_law_1269 rfl rfl ?_
        refine g_aload (q := 1273) dL_law_1271 rfl rfl ?_
        refine g_iconst (q := 1274) dL_law_1273 rfl ⟨by decide, by decide⟩ ?_
        refine g_ildv (q := 1275) (z := T.2.1 47 1) dL_law_1274 rfl ⟨by decide, rfl, rfl⟩ (by omega) (by omega) rfl ?_
        refine g_icmp_ge (t := 1318) (q := 1278) dL_law_1275 (by decide) rfl (fun h1275 => (False.elim (by omega))) (fun h1275 => ?_)
        refine g_aload (q := 1280) dL_law_1278 rfl rfl ?_
        refine g_iload (q := 1282) dL_law_1280 rfl rfl ?_
        refine g_ildv (q := 1283) (z := T.2.1 42 (o : Int)) dL_law_1282 rfl ⟨by decide, rfl, rfl⟩ (by omega) (by omega) rfl ?_
        refine g_fnS (as := [zI (T.2.1 42 (o : Int))]) (q := 1286) (u' := 500 * n + 10) dL_law_1283 rfl ck_L_96 rfl rfl (Nat.le_of_ble_eq_true rfl) ⟨Nat.le_of_ble_eq_true rfl, Nat.le_of_ble_eq_true rfl⟩ rfl (show 500 * n + 10 ≤ 100000 by omega) (s_L_state (by omega)) rfl ?_
        refine g_iconst (q := 1287) dL_law_1286 rfl ⟨by decide, by decide⟩ ?_
        refine g_icmp_ne (t := 1312) (q := 1290) dL_law_1287 (by decide) rfl (fun h1287 => ?_) (fun h1287 => (False.elim (by omega)))
        refine g_iinc (q := 1315) (i := 29) (n := 1) dL_law_1312 rfl rfl (by constructor <;> omega) ?_
        refine g_goto (q := 0) (t := 1269) dL_law_1315 (by decide) ?_
        exact hnx
theorem lc_endf (hI : zInv n S) (hg : S.1 2 < 46) (hn : n < 150) (hf : 0 ≤ f ∧ f < 6) (hK : ∀ U, zInv (n + 1) U → z_G (mLw hh) F (500 * n + 60) 3002 [some (zR 49), some (zR 0), some (zR 7), some (zR 40), some (zR 41), some (zR 42), some (zR 43), some (zR 44), some (zR 48), some (zR 45), some (zR 46), some (zR 47), some (zI (n : Int)), some (zI v), some (zI w), none, none, none, some (zI 1), none, none, none, none, none, none, none, none, none, none, none, none, none, none, none, none, none, none, none, none, none, none, none, none, none, none, none, none, none, none, none] [] U) : z_G (mLw hh) F (500 * n + 10) 957 [some (zR 49), some (zR 0), some (zR 7), some (zR 40), some (zR 41), some (zR 42), some (zR 43), some (zR 44), some (zR 48), some (zR 45), some (zR 46), some (zR 47), some (zI (n : Int)), some (zI v), some (zI w), some (zI i), some (zI (zdg i)), some (zI f), some (zI 1), none, none, none, none, none, none, none, none, none, none, none, none, none, none, none, none, none, none, none, none, none, none, none, none, none, none, none, none, none, none, none] [] S := by
  have h := hI.1
  have hb := hI.ab (by omega)
  have hO := h.yO'
  have hnow := h.now
  have hnr := h.nowr
  have hch := h.chg
  have hcr := h.chgr
  have h3 := hI.2.2.1
  have hl := zlow_rng (v := zShr w 5) (n := 5) (by omega)
  have k84 : ∀ e : Int, (0 ≤ e ∧ e < 6) → ¬ f = e → z_G (mLw hh) F (500 * n + 10) 984 [some (zR 49), some (zR 0), some (zR 7), some (zR 40), some (zR 41), some (zR 42), some (zR 43), some (zR 44), some (zR 48), some (zR 45), some (zR 46), some (zR 47), some (zI (n : Int)), some (zI v), some (zI w), some (zI i), some (zI (zdg i)), some (zI f), some (zI 1), none, none, none, none, none, none, none, none, none, none, none, none, none, none, none, none, none, none, none, none, none, none, none, none, none, none, none, none, none, none, none] [zI e] S := by
    intro e he hfe
    have ff := h.firm f hf.1 hf.2
    have fe := h.firm e he.1 he.2
    have flf := h.flag f hf.1 hf.2
    have fle := h.flag e he.1 he.2
    have bf := hb f hf.1 hf.2
    have be := hb e he.1 he.2
    by_cases cg : S.2.1 9 f = 0 ∧ S.2.1 9 e = 0
    · obtain ⟨c, ec⟩ : ∃ c, c = (S.1 1).toNat := ⟨_, rfl⟩
      rw [← ec] at hO
      obtain ⟨p, hp⟩ : ∃ p : Nat → Bool, ∀ j : Nat, p j = decide (¬ S.2.1 40 j = -1 ∧ S.2.1 40 j = S.2.1 7 ((j : Int) / 3)) := ⟨_, fun _ => rfl⟩
      obtain ⟨q, hq⟩ : ∃ q : Nat → Bool, ∀ j : Nat, q j = decide (S.2.1 40 j = e ∧ S.2.1 7 ((j : Int) / 3) = f) := ⟨_, fun _ => rfl⟩
      have hy := y_hl_at (f := f) (h := e) 4 0 S
      have hY0 : zY f e S 0 (y_hl f e 0 4 S) := by
        refine ⟨fun m a b => by rw [hy.1 40 (by omega)], fun b x y => ?_, by rw [hy.1 47 (by omega)]; omega, by rw [hy.1 47 (by omega)]⟩
        rw [hy.2 b]
        by_cases cb : S.2.1 7 b = f
        · rw [if_pos ⟨by omega, cb⟩, if_pos cb]
        · rw [if_neg (fun w => cb w.2), if_neg cb]
      have hOy : yO (y_el f e S 0 12 (y_hl f e 0 4 S)) c := by
        obtain ⟨o1, o2, o3⟩ := hO
        have hz : ∀ k i Y, (y_el f e S i k Y).2.1 47 1 = Y.2.1 47 1 := by
          intro k
          induction k with
          | zero => intro i Y; rfl
          | succ k ih =>
            intro i Y
            rw [y_el, ih]
            have hgt1 : ∀ (T : zS) (a b : Int), (y_gt T a b).2.1 47 1 = T.2.1 47 1 := fun T a b => by
              unfold y_gt
              rw [za_ne (by omega), za_ni (by omega), za_ne (by omega)]
            unfold y_e1
            split
            · split
              · rw [za_ne (by omega), za_ne (by omega)]
              · rw [hgt1, za_ne (by omega)]
            · split
              · exact hgt1 _ _ _
              · rfl
        refine ⟨?_, o2, fun a x y => ?_⟩
        · rw [hz, hy.1 47 (by omega)]
          exact o1
        · rw [y_el_ne (by omega), hy.1 42 (by omega)]
          exact o3 a x y
      obtain ⟨T, eT⟩ : ∃ T, T = y_cl f 0 c (y_el f e S 0 12 (y_hl f e 0 4 S)) := ⟨_, rfl⟩
      have t46 : T.2.1 46 f = S.2.1 46 f := by rw [eT, y_cl_ne (by omega), y_el_ne (by omega), hy.1 46 (by omega)]
      obtain ⟨W, qW, hW⟩ := q_endFirm (U := z_sA T 46 f (S.2.1 46 f + 128)) hI hn hg hf he hfe cg.1 cg.2 (by rw [eT, ec]; exact zlw.rf) (by rw [eT]; exact zcl_w (zcl_cl _ _ _ (zcl_el _ _ _ (zcl_hl _ _ _ zcl.rf))) (by omega))
      have ho := zOr_128 (x := S.2.1 46 f) (by omega) (by omega) (by omega)
      obtain ⟨z, ez⟩ : ∃ z, z = y_ec f S 0 12 := ⟨_, rfl⟩
      rw [← ez] at qW
      have k18 : z_G (mLw hh) F (500 * n + 10) 1318 [some (zR 49), some (zR 0), some (zR 7), some (zR 40), some (zR 41), some (zR 42), some (zR 43), some (zR 44), some (zR 48), some (zR 45), some (zR 46), some (zR 47), some (zI (n : Int)), some (zI v), some (zI w), none, none, some (zI f), some (zI 1), none, none, none, none, none, none, some (zI e), some (zI z), none, none, none, none, none, none, none, none, none, none, none, none, none, none, none, none, none, none, none, none, none, none, none] [] T := by
        refine g_aload (q := 1320) dL_law_1318 rfl rfl ?_
        refine g_iload (q := 1322) dL_law_1320 rfl rfl ?_
        refine g_dup2 (q := 1323) dL_law_1322 rfl trivial trivial ?_
        refine g_ildv (q := 1324) (z := S.2.1 46 f) dL_law_1323 rfl ⟨by decide, rfl, rfl⟩ (by omega) (by omega) t46 ?_
        refine g_sipush (q := 1327) dL_law_1324 rfl ⟨by decide, by decide⟩ (by decide) ?_
        refine g_iorv (q := 1328) (z := S.2.1 46 f + 128) dL_law_1327 rfl (ho) ?_
        refine g_iast (q := 1329) dL_law_1328 rfl ⟨by decide, rfl, rfl⟩ (by omega) (by omega) ?_
        refine g_aload_n (i := 1) (q := 1330) dL_law_1329 rfl rfl rfl ?_
        refine g_iload (q := 1332) dL_law_1330 rfl rfl ?_
        refine g_iload (q := 1334) dL_law_1332 rfl rfl ?_
        refine g_fnW (as := [zR 0, zI f, zI e]) (q := 1337) (u' := 500 * n + 13) dL_law_1334 rfl ck_L_196 rfl rfl (Nat.le_of_ble_eq_true rfl) ⟨Nat.le_of_ble_eq_true rfl, Nat.le_of_ble_eq_true rfl⟩ rfl (show 500 * n + 13 ≤ 100000 by omega) (qW) ?_
        refine g_iload (q := 1339) dL_law_1337 rfl rfl ?_
        refine g_icmp_ne (t := 1346) (q := 1342) dL_law_1339 (by decide) rfl (fun h1339 => (False.elim (by omega))) (fun h1339 => ?_)
        refine g_iconst (q := 1343) dL_law_1342 rfl ⟨by decide, by decide⟩ ?_
        refine g_goto (q := 0) (t := 1347) dL_law_1343 (by decide) ?_
        refine g_istore (q := 1349) dL_law_1347 rfl (Nat.le_of_ble_eq_true rfl) ?_
        refine g_goto (q := 0) (t := 3002) dL_law_1349 (by decide) ?_
        exact g_forget (z_sub_r (z_sub_r (z_sub_r (z_sub_r (z_sub_r (z_sub_r (z_sub_r (z_sub_r (z_sub_r (z_sub_r (z_sub_r (z_sub_r (z_sub_r (z_sub_r (z_sub_r (z_sub_n (z_sub_n (z_sub_n (z_sub_r (z_sub_n (z_sub_n (z_sub_n (z_sub_n (z_sub_n (z_sub_n (z_sub_n (z_sub_n (z_sub_n (z_sub_n (z_sub_n (z_sub_n (z_sub_n (z_sub_n (z_sub_n (z_sub_n (z_sub_n (z_sub_n (z_sub_n (z_sub_n (z_sub_n (z_sub_n (z_sub_n (z_sub_n (z_sub_n (z_sub_n (z_sub_n (z_sub_n (z_sub_n (z_sub_n (z_sub_n z_sub_0)))))))))))))))))))))))))))))))))))))))))))))))))) (z_G.widen (by omega) (hK _ hW))
      rw [eT] at k18
      have k69 := lc_ef4 (hh := hh) (F := F) (n := n) (v := v) (w := w) (e := e) (cn := z) hn c 0 _ (by omega) hOy k18
      have k66 : z_G (mLw hh) F (500 * n + 10) 1266 [some (zR 49), some (zR 0), some (zR 7), some (zR 40), some (zR 41), some (zR 42), some (zR 43), some (zR 44), some (zR 48), some (zR 45), some (zR 46), some (zR 47), some (zI (n : Int)), some (zI v), some (zI w), none, none, some (zI f), some (zI 1), none, none, none, none, none, none, some (zI e), some (zI (0 + y_ec f S 0 12)), none, none, none, none, none, none, none, none, none, none, none, none, none, none, none, none, none, none, none, none, none, none, none] [] (y_el f e S 0 12 (y_hl f e 0 4 S)) := by
        rw [← ez, Int.zero_add]
        obtain ⟨Y, eY⟩ : ∃ Y, Y = y_el f e S 0 12 (y_hl f e 0 4 S) := ⟨_, rfl⟩
        rw [← eY] at k69 ⊢
        refine g_iconst (q := 1267) dL_law_1266 rfl ⟨by decide, by decide⟩ ?_
        refine g_istore (q := 1269) dL_law_1267 rfl (Nat.le_of_ble_eq_true rfl) ?_
        exact k69
      have k64 := lc_ef3 (hh := hh) (F := F) (n := n) (v := v) (w := w) hn hf he hfe hp hq (by omega) (by omega) 12 0 _ 0 (by omega) hY0 (by omega) k66
      have k61 : z_G (mLw hh) F (500 * n + 10) 1161 [some (zR 49), some (zR 0), some (zR 7), some (zR 40), some (zR 41), some (zR 42), some (zR 43), some (zR 44), some (zR 48), some (zR 45), some (zR 46), some (zR 47), some (zI (n : Int)), some (zI v), some (zI w), none, none, some (zI f), some (zI 1), none, none, none, none, none, none, some (zI e), some (zI 0), some (zI (zmk p 12 : Int)), some (zI (zmk q 12 : Int)), none, none, none, none, none, none, none, none, none, none, none, none, none, none, none, none, none, none, none, none, none] [] (y_hl f e 0 4 S) := by
        obtain ⟨Y, eY⟩ : ∃ Y, Y = y_hl f e 0 4 S := ⟨_, rfl⟩
        rw [← eY] at k64 ⊢
        refine g_iconst (q := 1162) dL_law_1161 rfl ⟨by decide, by decide⟩ ?_
        refine g_istore (q := 1164) dL_law_1162 rfl (Nat.le_of_ble_eq_true rfl) ?_
        exact k64
      have k27 := lc_ef2 4 0 S (by omega) k61
      have k44 := lc_ef1 (hh := hh) (F := F) (v := v) (w := w) hn hp hq (by
        refine g_iconst (q := 1125) dL_law_1124 rfl ⟨by decide, by decide⟩ ?_
        refine g_istore (q := 1127) dL_law_1125 rfl (Nat.le_of_ble_eq_true rfl) ?_
        exact k27) 12 0 (by omega)
      clear hp hq hY0 hOy
      refine g_istore (q := 986) dL_law_984 rfl (Nat.le_of_ble_eq_true rfl) ?_
      refine g_aload (q := 988) dL_law_986 rfl rfl ?_
      refine g_iload (q := 990) dL_law_988 rfl rfl ?_
      refine g_ildv (q := 991) (z := S.2.1 46 f) dL_law_990 rfl ⟨by decide, rfl, rfl⟩ (by omega) (by omega) rfl ?_
      refine g_fnS (as := [zI (S.2.1 46 f)]) (q := 994) (u' := 500 * n + 10) dL_law_991 rfl ck_L_114 rfl rfl (Nat.le_of_ble_eq_true rfl) ⟨Nat.le_of_ble_eq_true rfl, Nat.le_of_ble_eq_true rfl⟩ rfl (show 500 * n + 10 ≤ 100000 by omega) (s_L_isGone (by omega)) rfl ?_
      refine g_if_ne (t := 1008) (q := 997) dL_law_994 (by decide) rfl (fun h994 => (False.elim (by omega))) (fun h994 => ?_)
      refine g_aload (q := 999) dL_law_997 rfl rfl ?_
      refine g_iload (q := 1001) dL_law_999 rfl rfl ?_
      refine g_ildv (q := 1002) (z := S.2.1 46 e) dL_law_1001 rfl ⟨by decide, rfl, rfl⟩ (by omega) (by omega) rfl ?_
      refine g_fnS (as := [zI (S.2.1 46 e)]) (q := 1005) (u' := 500 * n + 10) dL_law_1002 rfl ck_L_114 rfl rfl (Nat.le_of_ble_eq_true rfl) ⟨Nat.le_of_ble_eq_true rfl, Nat.le_of_ble_eq_true rfl⟩ rfl (show 500 * n + 10 ≤ 100000 by omega) (s_L_isGone (by omega)) rfl ?_
      refine g_if_eq (t := 1032) (q := 1008) dL_law_1005 (by decide) rfl (fun h1005 => ?_) (fun h1005 => (False.elim (by omega)))
      refine g_iconst (q := 1033) dL_law_1032 rfl ⟨by decide, by decide⟩ ?_
      refine g_istore (q := 1035) dL_law_1033 rfl (Nat.le_of_ble_eq_true rfl) ?_
      refine g_iconst (q := 1036) dL_law_1035 rfl ⟨by decide, by decide⟩ ?_
      refine g_istore (q := 1038) dL_law_1036 rfl (Nat.le_of_ble_eq_true rfl) ?_
      refine g_iconst (q := 1039) dL_law_1038 rfl ⟨by decide, by decide⟩ ?_
      refine g_istore (q := 1041) dL_law_1039 rfl (Nat.le_of_ble_eq_true rfl) ?_
      refine g_iconst (q := 1042) dL_law_1041 rfl ⟨by decide, by decide⟩ ?_
      refine g_istore (q := 1044) dL_law_1042 rfl (Nat.le_of_ble_eq_true rfl) ?_
      exact g_forget (z_sub_r (z_sub_r (z_sub_r (z_sub_r (z_sub_r (z_sub_r (z_sub_r (z_sub_r (z_sub_r (z_sub_r (z_sub_r (z_sub_r (z_sub_r (z_sub_r (z_sub_r (z_sub_n (z_sub_n (z_sub_r (z_sub_r (z_sub_n (z_sub_n (z_sub_n (z_sub_n (z_sub_n (z_sub_n (z_sub_r (z_sub_r (z_sub_r (z_sub_r (z_sub_r (z_sub_n (z_sub_n (z_sub_n (z_sub_n (z_sub_n (z_sub_n (z_sub_n (z_sub_n (z_sub_n (z_sub_n (z_sub_n (z_sub_n (z_sub_n (z_sub_n (z_sub_n (z_sub_n (z_sub_n (z_sub_n (z_sub_n (z_sub_n z_sub_0)))))))))))))))))))))))))))))))))))))))))))))))))) k44
    · have q := q_gone_ex h (by omega) (by omega) hf he hfe (by omega)
      have k08 : z_G (mLw hh) F (500 * n + 10) 1008 [some (zR 49), some (zR 0), some (zR 7), some (zR 40), some (zR 41), some (zR 42), some (zR 43), some (zR 44), some (zR 48), some (zR 45), some (zR 46), some (zR 47), some (zI (n : Int)), some (zI v), some (zI w), some (zI i), some (zI (zdg i)), some (zI f), some (zI 1), none, none, none, none, none, none, some (zI e), none, none, none, none, none, none, none, none, none, none, none, none, none, none, none, none, none, none, none, none, none, none, none, none] [] S := by
        refine g_aload_n (i := 1) (q := 1009) dL_law_1008 rfl rfl rfl ?_
        refine g_iload (q := 1011) dL_law_1009 rfl rfl ?_
        refine g_iload (q := 1013) dL_law_1011 rfl rfl ?_
        refine g_fnW (as := [zR 0, zI f, zI e]) (q := 1016) (u' := 500 * n + 13) dL_law_1013 rfl ck_L_196 rfl rfl (Nat.le_of_ble_eq_true rfl) ⟨Nat.le_of_ble_eq_true rfl, Nat.le_of_ble_eq_true rfl⟩ rfl (show 500 * n + 13 ≤ 100000 by omega) (q) ?_
        refine g_sipush (q := 1019) dL_law_1016 rfl ⟨by decide, by decide⟩ (by decide) ?_
        refine g_icmp_ne (t := 1026) (q := 1022) dL_law_1019 (by decide) rfl (fun h1019 => (False.elim (by omega))) (fun h1019 => ?_)
        refine g_iconst (q := 1023) dL_law_1022 rfl ⟨by decide, by decide⟩ ?_
        refine g_goto (q := 0) (t := 1027) dL_law_1023 (by decide) ?_
        refine g_istore (q := 1029) dL_law_1027 rfl (Nat.le_of_ble_eq_true rfl) ?_
        refine g_goto (q := 0) (t := 3002) dL_law_1029 (by decide) ?_
        exact g_forget (z_sub_r (z_sub_r (z_sub_r (z_sub_r (z_sub_r (z_sub_r (z_sub_r (z_sub_r (z_sub_r (z_sub_r (z_sub_r (z_sub_r (z_sub_r (z_sub_r (z_sub_r (z_sub_n (z_sub_n (z_sub_n (z_sub_r (z_sub_n (z_sub_n (z_sub_n (z_sub_n (z_sub_n (z_sub_n (z_sub_n (z_sub_n (z_sub_n (z_sub_n (z_sub_n (z_sub_n (z_sub_n (z_sub_n (z_sub_n (z_sub_n (z_sub_n (z_sub_n (z_sub_n (z_sub_n (z_sub_n (z_sub_n (z_sub_n (z_sub_n (z_sub_n (z_sub_n (z_sub_n (z_sub_n (z_sub_n (z_sub_n (z_sub_n z_sub_0)))))))))))))))))))))))))))))))))))))))))))))))))) (z_G.widen (by omega) (hK _ hI.same))
      by_cases cf : S.2.1 9 f = 0
      · skip
        refine g_istore (q := 986) dL_law_984 rfl (Nat.le_of_ble_eq_true rfl) ?_
        refine g_aload (q := 988) dL_law_986 rfl rfl ?_
        refine g_iload (q := 990) dL_law_988 rfl rfl ?_
        refine g_ildv (q := 991) (z := S.2.1 46 f) dL_law_990 rfl ⟨by decide, rfl, rfl⟩ (by omega) (by omega) rfl ?_
        refine g_fnS (as := [zI (S.2.1 46 f)]) (q := 994) (u' := 500 * n + 10) dL_law_991 rfl ck_L_114 rfl rfl (Nat.le_of_ble_eq_true rfl) ⟨Nat.le_of_ble_eq_true rfl, Nat.le_of_ble_eq_true rfl⟩ rfl (show 500 * n + 10 ≤ 100000 by omega) (s_L_isGone (by omega)) rfl ?_
        refine g_if_ne (t := 1008) (q := 997) dL_law_994 (by decide) rfl (fun h994 => (False.elim (by omega))) (fun h994 => ?_)
        refine g_aload (q := 999) dL_law_997 rfl rfl ?_
        refine g_iload (q := 1001) dL_law_999 rfl rfl ?_
        refine g_ildv (q := 1002) (z := S.2.1 46 e) dL_law_1001 rfl ⟨by decide, rfl, rfl⟩ (by omega) (by omega) rfl ?_
        refine g_fnS (as := [zI (S.2.1 46 e)]) (q := 1005) (u' := 500 * n + 10) dL_law_1002 rfl ck_L_114 rfl rfl (Nat.le_of_ble_eq_true rfl) ⟨Nat.le_of_ble_eq_true rfl, Nat.le_of_ble_eq_true rfl⟩ rfl (show 500 * n + 10 ≤ 100000 by omega) (s_L_isGone (by omega)) rfl ?_
        refine g_if_eq (t := 1032) (q := 1008) dL_law_1005 (by decide) rfl (fun h1005 => (False.elim (by omega))) (fun h1005 => ?_)
        exact k08
      · skip
        refine g_istore (q := 986) dL_law_984 rfl (Nat.le_of_ble_eq_true rfl) ?_
        refine g_aload (q := 988) dL_law_986 rfl rfl ?_
        refine g_iload (q := 990) dL_law_988 rfl rfl ?_
        refine g_ildv (q := 991) (z := S.2.1 46 f) dL_law_990 rfl ⟨by decide, rfl, rfl⟩ (by omega) (by omega) rfl ?_
        refine g_fnS (as := [zI (S.2.1 46 f)]) (q := 994) (u' := 500 * n + 10) dL_law_991 rfl ck_L_114 rfl rfl (Nat.le_of_ble_eq_true rfl) ⟨Nat.le_of_ble_eq_true rfl, Nat.le_of_ble_eq_true rfl⟩ rfl (show 500 * n + 10 ≤ 100000 by omega) (s_L_isGone (by omega)) rfl ?_
        refine g_if_ne (t := 1008) (q := 997) dL_law_994 (by decide) rfl (fun h994 => ?_) (fun h994 => (False.elim (by omega)))
        exact k08
  refine g_iload (q := 959) dL_law_957 rfl rfl ?_
  refine g_bipush (q := 961) dL_law_959 rfl ⟨by decide, by decide⟩ (by decide) ?_
  refine g_iandv (q := 962) (z := zAnd w 14) dL_law_961 rfl (rfl) ?_
  refine g_if_le (t := 968) (q := 965) dL_law_962 (by decide) rfl (fun h962 => ?_) (fun h962 => ?_)
  · refine g_iload (q := 970) dL_law_968 rfl rfl ?_
    refine g_iconst (q := 971) dL_law_970 rfl ⟨by decide, by decide⟩ ?_
    refine g_iadd (q := 972) dL_law_971 rfl (by constructor <;> omega) ?_
    refine g_iload (q := 974) dL_law_972 rfl rfl ?_
    refine g_iconst (q := 975) dL_law_974 rfl ⟨by decide, by decide⟩ ?_
    refine g_ishrv (q := 976) (z := zShr w 5) dL_law_975 rfl (rfl) ?_
    refine g_iconst (q := 977) dL_law_976 rfl ⟨by decide, by decide⟩ ?_
    refine g_fnS (as := [zI (zShr w 5), zI 5]) (q := 980) (u' := 500 * n + 10) dL_law_977 rfl ck_L_125 rfl rfl (Nat.le_of_ble_eq_true rfl) ⟨Nat.le_of_ble_eq_true rfl, Nat.le_of_ble_eq_true rfl⟩ rfl (show 500 * n + 10 ≤ 100000 by omega) (s_L_low (by omega)) rfl ?_
    refine g_iadd (q := 981) dL_law_980 rfl (by constructor <;> omega) ?_
    refine g_bipush (q := 983) dL_law_981 rfl ⟨by decide, by decide⟩ (by decide) ?_
    refine g_irem (q := 984) dL_law_983 rfl (by omega) (by omega) ?_
    exact k84 _ (by omega) (by omega)
  · refine g_goto (q := 0) (t := 3002) dL_law_965 (by decide) ?_
    exact g_forget (z_sub_r (z_sub_r (z_sub_r (z_sub_r (z_sub_r (z_sub_r (z_sub_r (z_sub_r (z_sub_r (z_sub_r (z_sub_r (z_sub_r (z_sub_r (z_sub_r (z_sub_r (z_sub_n (z_sub_n (z_sub_n (z_sub_r (z_sub_n (z_sub_n (z_sub_n (z_sub_n (z_sub_n (z_sub_n (z_sub_n (z_sub_n (z_sub_n (z_sub_n (z_sub_n (z_sub_n (z_sub_n (z_sub_n (z_sub_n (z_sub_n (z_sub_n (z_sub_n (z_sub_n (z_sub_n (z_sub_n (z_sub_n (z_sub_n (z_sub_n (z_sub_n (z_sub_n (z_sub_n (z_sub_n (z_sub_n (z_sub_n (z_sub_n z_sub_0)))))))))))))))))))))))))))))))))))))))))))))))))) (z_G.widen (by omega) (hK _ hI.same))
end
