/-! ===== the law's tables learn ===== -/
def y_lc (T : zS) (f : Int) (b : Bool) (a : Nat) : Prop := b = true ∨ (T.2.1 46 f / 64 % 2 = 0 ∧ T.2.1 44 a % 16384 + T.2.1 46 f % 64 ≤ T.2.1 47 0)
def y_l1 (T : zS) (f : Int) (a : Nat) : zS := z_sA (z_sL T f (zput (T.2.2 f) (T.2.1 44 a / 16384 % 16) (T.2.1 44 a / 262144))) 45 f ((a : Int) + 1)
def y_ln (f : Int) (b : Bool) : Nat → Nat → zS → zS
  | _, 0, T => T
  | a, k + 1, T => if b = true ∨ (T.2.1 46 f / 64 % 2 = 0 ∧ T.2.1 44 a % 16384 + T.2.1 46 f % 64 ≤ T.2.1 47 0) then y_ln f b (a + 1) k (y_l1 T f a) else T
/-- what learning rests on -/
def yL (T : zS) (c : Nat) (f : Int) : Prop := T.2.1 47 2 = c ∧ c ≤ 64 ∧ (∀ j : Int, 0 ≤ j → j < c → (0 ≤ T.2.1 44 j ∧ T.2.1 44 j < 2097152) ∧ T.2.1 44 j / 16384 % 16 < 12 ∧ T.2.1 44 j / 262144 ≤ 6) ∧ (0 ≤ T.2.1 46 f ∧ T.2.1 46 f < 2147483648) ∧ yT T ∧ (0 ≤ T.2.1 47 0 ∧ T.2.1 47 0 ≤ 9999)
theorem yL.step {T : zS} {c a : Nat} {f : Int} (h : yL T c f) (hf : 0 ≤ f ∧ f < 6) (ha : a < c) : yL (y_l1 T f a) c f := by
  obtain ⟨h1, h2, h3, h4, h5, h6⟩ := h
  have h7 := h3 a (by omega) (by omega)
  refine ⟨h1, h2, h3, h4, fun g x y => ?_, h6⟩
  show 0 ≤ (z_sL T f (zput (T.2.2 f) (T.2.1 44 a / 16384 % 16) (T.2.1 44 a / 262144))).2.2 g ∧ (z_sL T f (zput (T.2.2 f) (T.2.1 44 a / 16384 % 16) (T.2.1 44 a / 262144))).2.2 g < _
  rw [zl_sL]
  split
  · exact zput_rng (h5 f hf.1 hf.2) (by omega) (by omega)
  · exact h5 g x y
theorem y_l1_45 {T : zS} {f : Int} {a : Nat} : (y_l1 T f a).2.1 45 f = (a : Int) + 1 := za_eq
theorem l_L_learns {Q : zQ} {f had bi : Int} {b : Bool} {c : Nat} (hb : (b = true ∧ bi = 1) ∨ (b = false ∧ bi = 0)) (hf : 0 ≤ f ∧ f < 6) (hh : 0 ≤ had ∧ had ≤ 64) : ∀ (k a : Nat) (T : zS), T.2.1 45 f = a → a + k = c → yL T c f → Q (.ok (some (zI ((y_ln f b a k T).2.1 45 f - had)))) (y_ln f b a k T) → ∀ w, z_G mL_learns (z_F mL_learns Q) 0 6 [some (zI f), some (zI bi), some (zR 44), some (zR 48), some (zR 45), some (zR 46), some (zR 47), some (zI had), w] [] T := by
  intro k
  induction k with
  | zero =>
    intro a T ha hk hL hQ w
    obtain ⟨h1, h2, h3, h4, h5, h6⟩ := hL
    rw [y_ln, ha] at hQ
    refine g_aload (q := 8) dL_learns_6 rfl rfl ?_
    refine g_iload_n (i := 0) (q := 9) dL_learns_8 rfl rfl rfl ?_
    refine g_ildv (q := 10) (z := (a : Int)) dL_learns_9 rfl ⟨by decide, rfl, rfl⟩ (by omega) (by omega) ha ?_
    refine g_aload (q := 12) dL_learns_10 rfl rfl ?_
    refine g_iconst (q := 13) dL_learns_12 rfl ⟨by decide, by decide⟩ ?_
    refine g_ildv (q := 14) (z := T.2.1 47 2) dL_learns_13 rfl ⟨by decide, rfl, rfl⟩ (by omega) (by omega) rfl ?_
    refine g_icmp_ge (t := 116) (q := 17) dL_learns_14 (by decide) rfl (fun h14 => ?_) (fun h14 => (False.elim (by omega)))
    refine g_aload (q := 118) dL_learns_116 rfl rfl ?_
    refine g_iload_n (i := 0) (q := 119) dL_learns_118 rfl rfl rfl ?_
    refine g_ildv (q := 120) (z := (a : Int)) dL_learns_119 rfl ⟨by decide, rfl, rfl⟩ (by omega) (by omega) ha ?_
    refine g_iload (q := 122) dL_learns_120 rfl rfl ?_
    refine g_isub (q := 123) dL_learns_122 rfl (by constructor <;> omega) ?_
    exact g_ret dL_learns_123 rfl (by decide) hQ
  | succ k ih =>
    intro a T ha hk hL hQ w
    have hst := hL.step hf (a := a) (by omega)
    obtain ⟨h1, h2, h3, h4, h5, h6⟩ := hL
    have h7 := h3 a (by omega) (by omega)
    rw [y_ln] at hQ
    have hex : ¬ (b = true ∨ (T.2.1 46 f / 64 % 2 = 0 ∧ T.2.1 44 a % 16384 + T.2.1 46 f % 64 ≤ T.2.1 47 0)) → z_G mL_learns (z_F mL_learns Q) 0 116 [some (zI f), some (zI bi), some (zR 44), some (zR 48), some (zR 45), some (zR 46), some (zR 47), some (zI had), w] [] T := by
      intro e
      rw [if_neg e, ha] at hQ
      refine g_aload (q := 118) dL_learns_116 rfl rfl ?_
      refine g_iload_n (i := 0) (q := 119) dL_learns_118 rfl rfl rfl ?_
      refine g_ildv (q := 120) (z := (a : Int)) dL_learns_119 rfl ⟨by decide, rfl, rfl⟩ (by omega) (by omega) ha ?_
      refine g_iload (q := 122) dL_learns_120 rfl rfl ?_
      refine g_isub (q := 123) dL_learns_122 rfl (by constructor <;> omega) ?_
      exact g_ret dL_learns_123 rfl (by decide) hQ
    have hgo : (b = true ∨ (T.2.1 46 f / 64 % 2 = 0 ∧ T.2.1 44 a % 16384 + T.2.1 46 f % 64 ≤ T.2.1 47 0)) → z_G mL_learns (z_F mL_learns Q) 0 56 [some (zI f), some (zI bi), some (zR 44), some (zR 48), some (zR 45), some (zR 46), some (zR 47), some (zI had), w] [] T := by
      intro e
      rw [if_pos e] at hQ
      have hnx := ih (a + 1) (y_l1 T f a) (by rw [y_l1_45]; omega) (by omega) hst hQ
      refine g_aload_n (i := 2) (q := 57) dL_learns_56 rfl rfl rfl ?_
      refine g_aload (q := 59) dL_learns_57 rfl rfl ?_
      refine g_iload_n (i := 0) (q := 60) dL_learns_59 rfl rfl rfl ?_
      refine g_ildv (q := 61) (z := (a : Int)) dL_learns_60 rfl ⟨by decide, rfl, rfl⟩ (by omega) (by omega) ha ?_
      refine g_ildv (q := 62) (z := T.2.1 44 (a : Int)) dL_learns_61 rfl ⟨by decide, rfl, rfl⟩ (by omega) (by omega) rfl ?_
      refine g_bipush (q := 64) dL_learns_62 rfl ⟨by decide, by decide⟩ (by decide) ?_
      refine g_ishrv (q := 65) (z := (T.2.1 44 (a : Int)) / 16384) dL_learns_64 rfl (zShr_p 14 (by decide) (by decide) (by constructor <;> omega)) ?_
      refine g_bipush (q := 67) dL_learns_65 rfl ⟨by decide, by decide⟩ (by decide) ?_
      refine g_iandv (q := 68) (z := ((T.2.1 44 (a : Int)) / 16384) % 16) dL_learns_67 rfl (zAnd_m 4 (by decide) (by decide) (by omega) (by omega)) ?_
      refine g_istore (q := 70) dL_learns_68 rfl (Nat.le_of_ble_eq_true rfl) ?_
      refine g_aload_n (i := 3) (q := 71) dL_learns_70 rfl rfl rfl ?_
      refine g_iload_n (i := 0) (q := 72) dL_learns_71 rfl rfl rfl ?_
      refine g_aload_n (i := 3) (q := 73) dL_learns_72 rfl rfl rfl ?_
      refine g_iload_n (i := 0) (q := 74) dL_learns_73 rfl rfl rfl ?_
      refine g_lald (q := 75) dL_learns_74 rfl (by omega) (by omega) ?_
      refine g_ldc2 (z := 7) (q := 78) dL_learns_75 rfl (z_big_of (by decide +kernel) rfl) (by constructor <;> decide) ?_
      refine g_iconst (q := 79) dL_learns_78 rfl ⟨by decide, by decide⟩ ?_
      refine g_iload (q := 81) dL_learns_79 rfl rfl ?_
      refine g_imul (q := 82) dL_learns_81 rfl (by constructor <;> omega) ?_
      refine g_lshlv (q := 83) (z := zLshl 7 (3 * (((T.2.1 44 (a : Int)) / 16384) % 16))) dL_learns_82 rfl (rfl) ?_
      refine g_ldc2 (z := -1) (q := 86) dL_learns_83 rfl (z_big_of (by decide +kernel) rfl) (by constructor <;> decide) ?_
      refine g_lxorv (q := 87) (z := zLxor (zLshl 7 (3 * (((T.2.1 44 (a : Int)) / 16384) % 16))) (-1)) dL_learns_86 rfl (rfl) ?_
      refine g_landv (q := 88) (z := zLand (T.2.2 f) (zLxor (zLshl 7 (3 * (((T.2.1 44 (a : Int)) / 16384) % 16))) (-1))) dL_learns_87 rfl (rfl) ?_
      refine g_aload_n (i := 2) (q := 89) dL_learns_88 rfl rfl rfl ?_
      refine g_aload (q := 91) dL_learns_89 rfl rfl ?_
      refine g_iload_n (i := 0) (q := 92) dL_learns_91 rfl rfl rfl ?_
      refine g_ildv (q := 93) (z := (a : Int)) dL_learns_92 rfl ⟨by decide, rfl, rfl⟩ (by omega) (by omega) ha ?_
      refine g_ildv (q := 94) (z := T.2.1 44 (a : Int)) dL_learns_93 rfl ⟨by decide, rfl, rfl⟩ (by omega) (by omega) rfl ?_
      refine g_bipush (q := 96) dL_learns_94 rfl ⟨by decide, by decide⟩ (by decide) ?_
      refine g_ishrv (q := 97) (z := (T.2.1 44 (a : Int)) / 262144) dL_learns_96 rfl (zShr_p 18 (by decide) (by decide) (by constructor <;> omega)) ?_
      refine g_i2l (q := 98) dL_learns_97 rfl ?_
      refine g_iconst (q := 99) dL_learns_98 rfl ⟨by decide, by decide⟩ ?_
      refine g_iload (q := 101) dL_learns_99 rfl rfl ?_
      refine g_imul (q := 102) dL_learns_101 rfl (by constructor <;> omega) ?_
      refine g_lshlv (q := 103) (z := zLshl ((T.2.1 44 (a : Int)) / 262144) (3 * (((T.2.1 44 (a : Int)) / 16384) % 16))) dL_learns_102 rfl (rfl) ?_
      refine g_lorv (q := 104) (z := zput (T.2.2 f) (T.2.1 44 a / 16384 % 16) (T.2.1 44 a / 262144)) dL_learns_103 rfl (rfl) ?_
      refine g_last (q := 105) dL_learns_104 rfl (by omega) (by omega) ?_
      refine g_aload (q := 107) dL_learns_105 rfl rfl ?_
      refine g_iload_n (i := 0) (q := 108) dL_learns_107 rfl rfl rfl ?_
      refine g_dup2 (q := 109) dL_learns_108 rfl trivial trivial ?_
      refine g_ildv (q := 110) (z := (a : Int)) dL_learns_109 rfl ⟨by decide, rfl, rfl⟩ (by omega) (by omega) ha ?_
      refine g_iconst (q := 111) dL_learns_110 rfl ⟨by decide, by decide⟩ ?_
      refine g_iadd (q := 112) dL_learns_111 rfl (by constructor <;> omega) ?_
      refine g_iast (q := 113) dL_learns_112 rfl ⟨by decide, rfl, rfl⟩ (by omega) (by omega) ?_
      refine g_goto (q := 0) (t := 6) dL_learns_113 (by decide) ?_
      exact hnx _
    rcases hb with ⟨rfl, rfl⟩ | ⟨rfl, rfl⟩
    · skip
      refine g_aload (q := 8) dL_learns_6 rfl rfl ?_
      refine g_iload_n (i := 0) (q := 9) dL_learns_8 rfl rfl rfl ?_
      refine g_ildv (q := 10) (z := (a : Int)) dL_learns_9 rfl ⟨by decide, rfl, rfl⟩ (by omega) (by omega) ha ?_
      refine g_aload (q := 12) dL_learns_10 rfl rfl ?_
      refine g_iconst (q := 13) dL_learns_12 rfl ⟨by decide, by decide⟩ ?_
      refine g_ildv (q := 14) (z := T.2.1 47 2) dL_learns_13 rfl ⟨by decide, rfl, rfl⟩ (by omega) (by omega) rfl ?_
      refine g_icmp_ge (t := 116) (q := 17) dL_learns_14 (by decide) rfl (fun h14 => (False.elim (by omega))) (fun h14 => ?_)
      refine g_iload_n (i := 1) (q := 18) dL_learns_17 rfl rfl rfl ?_
      refine g_if_ne (t := 56) (q := 21) dL_learns_18 (by decide) rfl (fun h18 => ?_) (fun h18 => (False.elim (by omega)))
      exact hgo (.inl rfl)
    · skip
      refine g_aload (q := 8) dL_learns_6 rfl rfl ?_
      refine g_iload_n (i := 0) (q := 9) dL_learns_8 rfl rfl rfl ?_
      refine g_ildv (q := 10) (z := (a : Int)) dL_learns_9 rfl ⟨by decide, rfl, rfl⟩ (by omega) (by omega) ha ?_
      refine g_aload (q := 12) dL_learns_10 rfl rfl ?_
      refine g_iconst (q := 13) dL_learns_12 rfl ⟨by decide, by decide⟩ ?_
      refine g_ildv (q := 14) (z := T.2.1 47 2) dL_learns_13 rfl ⟨by decide, rfl, rfl⟩ (by omega) (by omega) rfl ?_
      refine g_icmp_ge (t := 116) (q := 17) dL_learns_14 (by decide) rfl (fun h14 => (False.elim (by omega))) (fun h14 => ?_)
      refine g_iload_n (i := 1) (q := 18) dL_learns_17 rfl rfl rfl ?_
      refine g_if_ne (t := 56) (q := 21) dL_learns_18 (by decide) rfl (fun h18 => (False.elim (by omega))) (fun h18 => ?_)
      refine g_aload (q := 23) dL_learns_21 rfl rfl ?_
      refine g_iload_n (i := 0) (q := 24) dL_learns_23 rfl rfl rfl ?_
      refine g_ildv (q := 25) (z := T.2.1 46 f) dL_learns_24 rfl ⟨by decide, rfl, rfl⟩ (by omega) (by omega) rfl ?_
      refine g_fnS (as := [zI (T.2.1 46 f)]) (q := 28) (u' := 0) dL_learns_25 rfl ck_L_104 rfl rfl (Nat.le_of_ble_eq_true rfl) ⟨Nat.le_of_ble_eq_true rfl, Nat.le_of_ble_eq_true rfl⟩ rfl (by decide) (s_L_isDown (by omega)) rfl ?_
      refine g_if_ne (t := 116) (q := 31) dL_learns_28 (by decide) rfl (fun h28 => ?_) (fun h28 => ?_)
      · exact hex (fun e => e.elim (fun e => by cases e) (fun e => by omega))
      · refine g_aload_n (i := 2) (q := 32) dL_learns_31 rfl rfl rfl ?_
        refine g_aload (q := 34) dL_learns_32 rfl rfl ?_
        refine g_iload_n (i := 0) (q := 35) dL_learns_34 rfl rfl rfl ?_
        refine g_ildv (q := 36) (z := (a : Int)) dL_learns_35 rfl ⟨by decide, rfl, rfl⟩ (by omega) (by omega) ha ?_
        refine g_ildv (q := 37) (z := T.2.1 44 (a : Int)) dL_learns_36 rfl ⟨by decide, rfl, rfl⟩ (by omega) (by omega) rfl ?_
        refine g_sipush (q := 40) dL_learns_37 rfl ⟨by decide, by decide⟩ (by decide) ?_
        refine g_iandv (q := 41) (z := (T.2.1 44 (a : Int)) % 16384) dL_learns_40 rfl (zAnd_m 14 (by decide) (by decide) (by omega) (by omega)) ?_
        refine g_aload (q := 43) dL_learns_41 rfl rfl ?_
        refine g_iload_n (i := 0) (q := 44) dL_learns_43 rfl rfl rfl ?_
        refine g_ildv (q := 45) (z := T.2.1 46 f) dL_learns_44 rfl ⟨by decide, rfl, rfl⟩ (by omega) (by omega) rfl ?_
        refine g_bipush (q := 47) dL_learns_45 rfl ⟨by decide, by decide⟩ (by decide) ?_
        refine g_iandv (q := 48) (z := (T.2.1 46 f) % 64) dL_learns_47 rfl (zAnd_m 6 (by decide) (by decide) (by omega) (by omega)) ?_
        refine g_iadd (q := 49) dL_learns_48 rfl (by constructor <;> omega) ?_
        refine g_aload (q := 51) dL_learns_49 rfl rfl ?_
        refine g_iconst (q := 52) dL_learns_51 rfl ⟨by decide, by decide⟩ ?_
        refine g_ildv (q := 53) (z := T.2.1 47 0) dL_learns_52 rfl ⟨by decide, rfl, rfl⟩ (by omega) (by omega) rfl ?_
        refine g_icmp_gt (t := 116) (q := 56) dL_learns_53 (by decide) rfl (fun h53 => ?_) (fun h53 => ?_)
        · exact hex (fun e => e.elim (fun e => by cases e) (fun e => by omega))
        · exact hgo (.inr ⟨by omega, by omega⟩)
theorem s_L_learns {T : zS} {f bi : Int} {b : Bool} {c a : Nat} (hb : (b = true ∧ bi = 1) ∨ (b = false ∧ bi = 0)) (hf : 0 ≤ f ∧ f < 6) (ha : T.2.1 45 f = a) (hac : a ≤ c) (hL : yL T c f) : z_Fn mL_learns [zI f, zI bi, zR 44, zR 48, zR 45, zR 46, zR 47] T (some (zI ((y_ln f b a (c - a) T).2.1 45 f - a))) (y_ln f b a (c - a) T) := by
  have h2 := hL.2.1
  refine z_enter (by decide +kernel) rfl (z_n1 trivial (z_n1 trivial (z_n1 trivial (z_n1 trivial (z_n1 trivial (z_n1 trivial (z_n1 trivial z_n0))))))) (Nat.le_of_ble_eq_true rfl) ?_
  refine g_aload (q := 2) dL_learns_0 rfl rfl ?_
  refine g_iload_n (i := 0) (q := 3) dL_learns_2 rfl rfl rfl ?_
  refine g_ildv (q := 4) (z := (a : Int)) dL_learns_3 rfl ⟨by decide, rfl, rfl⟩ (by omega) (by omega) ha ?_
  refine g_istore (q := 6) dL_learns_4 rfl (Nat.le_of_ble_eq_true rfl) ?_
  exact l_L_learns hb hf (by omega) (c - a) a T ha (by omega) hL ⟨rfl, rfl⟩ none
theorem y_ln_all {f : Int} : ∀ (k a : Nat) (T : zS), T.2.1 45 f = a → (y_ln f true a k T).2.1 45 f = ((a + k : Nat) : Int)
  | 0, a, T, h => by rw [y_ln, h]; rfl
  | k + 1, a, T, h => by
    rw [y_ln, if_pos (.inl rfl), y_ln_all k (a + 1) _ (by rw [y_l1_45]; omega)]
    congr 1
    omega
/-- one change is learned on both sides -/
theorem rel_l1 {S T : zS} {f : Int} {a : Nat} (h : Rel (z_sA S 28 f a) T) (hf : 0 ≤ f ∧ f < 6) (ha : (a : Int) < S.1 2) : Rel (z_sA (z_sA S (30 + f.toNat) (S.2.1 26 a) (S.2.1 27 a)) 28 f ((a : Int) + 1)) (y_l1 T f a) := by
  have hc := h.cat a (by omega) ha
  have e26 : S.2.1 26 a = zdg (T.2.1 44 a / 16384 % 16) := hc.2.2.2.2.1
  have e27 : S.2.1 27 a = T.2.1 44 a / 262144 := hc.2.2.2.2.2
  have ht := h.trng f hf.1 hf.2
  refine h.learn (fun i => rfl) (fun k x y z w => funext fun j => ?_) (fun k x y => funext fun j => ?_) (fun g x y => ?_) (fun g i x y z w => ?_) (fun g m x y z w => ?_) (fun g x y => ?_)
  · rw [za_ne z, za_ne (by omega), za_ne z]
  · unfold y_l1
    rw [za_ne y, za_sL]
  · have q := h.lrn g x y
    unfold y_l1
    by_cases c : g = f
    · subst c
      rw [za_eq, za_eq]
      exact ⟨rfl, by omega, by show (a : Int) + 1 ≤ S.1 2; omega⟩
    · rw [za_ni c, za_ni (k := 28) (k' := 28) c, za_ne (by omega), za_sL]
      rw [za_ni (k := 28) (k' := 28) c] at q
      exact q
  · have q := h.tab g i x y z w
    rw [za_ne (by omega)] at q
    rw [za_ne (by omega)]
    show _ = zdig ((z_sL T f (zput (T.2.2 f) (T.2.1 44 a / 16384 % 16) (T.2.1 44 a / 262144))).2.2 g) i
    rw [zl_sL]
    by_cases c : g = f
    · subst c
      rw [if_pos rfl, zput_dig ht (by omega) (by omega) ⟨z, w⟩, e26, e27]
      by_cases c2 : i = T.2.1 44 a / 16384 % 16
      · rw [if_pos c2, c2, za_eq]
      · rw [if_neg c2, za_ni (fun e => c2 (zdg_inj ⟨z, w⟩ (by omega) e))]
        exact q
    · rw [if_neg c, za_ne (by omega)]
      exact q
  · have q := h.tabr g m x y z w
    rw [za_ne (by omega)] at q
    rw [za_ne (by omega)]
    by_cases c : g = f ∧ m = S.2.1 26 a
    · rw [c.1, c.2, za_eq, e27]
      omega
    · by_cases c1 : g = f
      · rw [c1, za_ni (fun e => c ⟨c1, e⟩), ← c1]
        exact q
      · rw [za_ne (by omega)]
        exact q
  · show 0 ≤ (z_sL T f (zput (T.2.2 f) (T.2.1 44 a / 16384 % 16) (T.2.1 44 a / 262144))).2.2 g ∧ (z_sL T f (zput (T.2.2 f) (T.2.1 44 a / 16384 % 16) (T.2.1 44 a / 262144))).2.2 g < _
    rw [zl_sL]
    split
    · exact zput_rng ht (by omega) (by omega)
    · exact h.trng g x y
theorem z28c {S : zS} {f : Int} {k : Nat} {a b : Int} (hk : k ≠ 28) {i v : Int} : z_sA (z_sA (z_sA S 28 f a) k i v) 28 f b = z_sA (z_sA S k i v) 28 f b := by
  have e : (z_sA (z_sA (z_sA S 28 f a) k i v) 28 f b).2.1 = (z_sA (z_sA S k i v) 28 f b).2.1 := by
    funext k' j
    simp only [za_sA]
    by_cases c : k' = 28 ∧ j = f
    · simp [c]
    · simp [c]
  exact Prod.ext rfl (Prod.ext e rfl)
theorem rel_la {f : Int} (hf : 0 ≤ f ∧ f < 6) : ∀ (k a : Nat) (S T : zS), Rel (z_sA S 28 f a) T → ((a + k : Nat) : Int) = S.1 2 → Rel (x_la S f a k) (y_ln f true a k T)
  | 0, a, S, T, h, e => by rw [x_la, y_ln]; exact h
  | k + 1, a, S, T, h, e => by
    rw [x_la, y_ln, if_pos (.inl rfl)]
    exact rel_la hf k (a + 1) _ _ (rel_l1 h hf (by omega)) (by show _ = S.1 2; omega)
theorem rel_lu {f m : Int} (hf : 0 ≤ f ∧ f < 6) : ∀ (k a : Nat) (S T : zS), Rel (z_sA S 28 f a) T → ((a + k : Nat) : Int) = S.1 2 → S.2.1 10 f = 0 → m = S.1 0 - S.2.1 11 f → (-4096 < S.2.1 12 f ∧ S.2.1 12 f < 4096) → Rel (x_lu S f m a k) (y_ln f false a k T)
  | 0, a, S, T, h, e, _, _, _ => by rw [x_lu, y_ln]; exact h
  | k + 1, a, S, T, h, e, hd, hm, hx => by
    have hfi := h.firm f hf.1 hf.2
    have hfl := h.flag f hf.1 hf.2
    have hc := h.cat a (by omega) (by show (a : Int) < S.1 2; omega)
    have hn := h.now
    have e10 : (z_sA S 28 f a).2.1 10 f = 0 := hd
    have e12 : (z_sA S 28 f a).2.1 12 f = S.2.1 12 f := rfl
    have e11 : (z_sA S 28 f a).2.1 11 f = S.2.1 11 f := rfl
    have e25 : (z_sA S 28 f a).2.1 25 a = S.2.1 25 a := rfl
    have en : (z_sA S 28 f a).1 0 = S.1 0 := rfl
    rw [x_lu, y_ln]
    by_cases c : S.2.1 25 a ≤ m
    · rw [if_pos c, if_pos (.inr ⟨by omega, by omega⟩)]
      exact rel_lu hf k (a + 1) _ _ (rel_l1 h hf (by omega)) (by show _ = S.1 2; omega) (by rw [za_ne (by omega)]; exact hd) (by rw [za_ne (by omega)]; exact hm) (by rw [za_ne (by omega)]; exact hx)
    · rw [if_neg c, if_neg (fun e => e.elim (fun e => by cases e) (fun e => by omega))]
      exact h
theorem y_ln_down {f : Int} {T : zS} (h : T.2.1 46 f / 64 % 2 = 1) : ∀ (k a : Nat), y_ln f false a k T = T
  | 0, a => by rw [y_ln]
  | k + 1, a => by rw [y_ln, if_neg (fun e => e.elim (fun e => by cases e) (fun e => by omega))]
