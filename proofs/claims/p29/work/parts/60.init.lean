/-! ===== the law's first loops ===== -/
def a_A0 (k : Nat) : Int := if k = 8 ∨ k = 13 ∨ k = 15 ∨ k = 16 ∨ k = 17 ∨ k = 18 then -1 else if 30 ≤ k ∧ k < 36 then 6 else 0
def a_S0 : zS := (fun _ => 0, fun k _ => a_A0 k, fun _ => 0)
def z6 : Nat → Int
  | 0 => 0
  | j + 1 => z6 j + 6 * ((8 ^ j : Nat) : Int)
theorem z6_or : ∀ j, j < 12 → zLor (z6 j) (zLshl 6 (3 * (j : Int))) = z6 (j + 1) := by decide +kernel
theorem z6_dig : ∀ j : Nat, j < 12 → zdig (z6 12) (j : Int) = 6 := by decide +kernel
theorem z6_12 : 0 ≤ z6 12 ∧ z6 12 < 68719476736 := by decide +kernel
def aI1 (i : Nat) (T : zS) : Prop := zcl T a_S0 ∧ (∀ j : Int, 0 ≤ j → j < i → T.2.1 7 j = -1) ∧ (∀ (q : Nat) (j : Int), 40 ≤ q → T.2.1 q j = 0) ∧ ∀ f, T.2.2 f = 0
def aI2 (i : Nat) (T : zS) : Prop := zcl T a_S0 ∧ (∀ j : Int, 0 ≤ j → j < 4 → T.2.1 7 j = -1) ∧ (∀ j : Int, 0 ≤ j → j < i → T.2.1 40 j = -1 ∧ T.2.1 40 (24 + j) = -1 ∧ T.2.1 40 (36 + j) = -1 ∧ T.2.1 40 (48 + j) = -1) ∧ (∀ j : Int, 12 ≤ j → j < 24 → T.2.1 40 j = 0) ∧ (∀ (q : Nat) (j : Int), 42 ≤ q → T.2.1 q j = 0) ∧ ∀ f, T.2.2 f = 0
def aI3 (i : Nat) (T : zS) : Prop := zcl T a_S0 ∧ (∀ j : Int, 0 ≤ j → j < 4 → T.2.1 7 j = -1) ∧ (∀ j : Int, 0 ≤ j → j < 12 → T.2.1 40 j = -1 ∧ T.2.1 40 (24 + j) = -1 ∧ T.2.1 40 (36 + j) = -1 ∧ T.2.1 40 (48 + j) = -1) ∧ (∀ j : Int, 12 ≤ j → j < 24 → T.2.1 40 j = 0) ∧ (∀ (q : Nat) (j : Int), 42 ≤ q → q ≠ 46 → T.2.1 q j = 0) ∧ (∀ f : Int, 0 ≤ f → f < i → T.2.1 46 f = 4194304 ∧ T.2.2 f = z6 12) ∧ (∀ f : Int, (i : Int) ≤ f → T.2.2 f = 0)
section
variable {hh : List (Nat × Nat × Nat × Nat)} {F : zF}
theorem lc_i1 (hK : ∀ U, aI1 4 U → z_G (mLw hh) F (0) 84 [some (zR 49), some (zR 0), some (zR 7), some (zR 40), some (zR 41), some (zR 42), some (zR 43), some (zR 44), some (zR 48), some (zR 45), some (zR 46), some (zR 47), none, none, none, none, none, none, none, none, none, none, none, none, none, none, none, none, none, none, none, none, none, none, none, none, none, none, none, none, none, none, none, none, none, none, none, none, none, none] [] U) : ∀ (k i : Nat) (T : zS), i + k = 4 → aI1 i T → z_G (mLw hh) F (0) 67 [some (zR 49), some (zR 0), some (zR 7), some (zR 40), some (zR 41), some (zR 42), some (zR 43), some (zR 44), some (zR 48), some (zR 45), some (zR 46), some (zR 47), some (zI (i : Int)), none, none, none, none, none, none, none, none, none, none, none, none, none, none, none, none, none, none, none, none, none, none, none, none, none, none, none, none, none, none, none, none, none, none, none, none, none] [] T := by
  intro k
  induction k with
  | zero =>
    intro i T hi hT
    have e : i = 4 := by omega
    subst e
    have hk := hK T hT
    clear hK
    refine g_iload (q := 69) dL_law_67 rfl rfl ?_
    refine g_iconst (q := 70) dL_law_69 rfl ⟨by decide, by decide⟩ ?_
    refine g_icmp_ge (t := 84) (q := 73) dL_law_70 (by decide) rfl (fun h70 => ?_) (fun h70 => (False.elim (by omega)))
    exact g_forget (z_sub_r (z_sub_r (z_sub_r (z_sub_r (z_sub_r (z_sub_r (z_sub_r (z_sub_r (z_sub_r (z_sub_r (z_sub_r (z_sub_r (z_sub_n (z_sub_n (z_sub_n (z_sub_n (z_sub_n (z_sub_n (z_sub_n (z_sub_n (z_sub_n (z_sub_n (z_sub_n (z_sub_n (z_sub_n (z_sub_n (z_sub_n (z_sub_n (z_sub_n (z_sub_n (z_sub_n (z_sub_n (z_sub_n (z_sub_n (z_sub_n (z_sub_n (z_sub_n (z_sub_n (z_sub_n (z_sub_n (z_sub_n (z_sub_n (z_sub_n (z_sub_n (z_sub_n (z_sub_n (z_sub_n (z_sub_n (z_sub_n (z_sub_n z_sub_0)))))))))))))))))))))))))))))))))))))))))))))))))) hk
  | succ k ih =>
    intro i T hi hT
    obtain ⟨h1, h2, h3, h4⟩ := hT
    have hnx := ih (i + 1) (z_sA T 7 i (-1)) (by omega) ⟨zcl_w h1 (by omega), fun j x y => by
      by_cases c : j = i
      · rw [c, za_eq]
      · rw [za_ni c]
        exact h2 j x (by omega), fun q j a => by rw [za_ne (by omega)]; exact h3 q j a, h4⟩
    clear hK ih
    refine g_iload (q := 69) dL_law_67 rfl rfl ?_
    refine g_iconst (q := 70) dL_law_69 rfl ⟨by decide, by decide⟩ ?_
    refine g_icmp_ge (t := 84) (q := 73) dL_law_70 (by decide) rfl (fun h70 => (False.elim (by omega))) (fun h70 => ?_)
    refine g_aload_n (i := 2) (q := 74) dL_law_73 rfl rfl rfl ?_
    refine g_iload (q := 76) dL_law_74 rfl rfl ?_
    refine g_iconst (q := 77) dL_law_76 rfl ⟨by decide, by decide⟩ ?_
    refine g_iast (q := 78) dL_law_77 rfl ⟨by decide, rfl, rfl⟩ (by omega) (by omega) ?_
    refine g_iinc (q := 81) (i := 12) (n := 1) dL_law_78 rfl rfl (by constructor <;> omega) ?_
    refine g_goto (q := 0) (t := 67) dL_law_81 (by decide) ?_
    exact hnx
theorem lc_i2 (hK : ∀ U, aI2 12 U → z_G (mLw hh) F (0) 136 [some (zR 49), some (zR 0), some (zR 7), some (zR 40), some (zR 41), some (zR 42), some (zR 43), some (zR 44), some (zR 48), some (zR 45), some (zR 46), some (zR 47), none, none, none, none, none, none, none, none, none, none, none, none, none, none, none, none, none, none, none, none, none, none, none, none, none, none, none, none, none, none, none, none, none, none, none, none, none, none] [] U) : ∀ (k i : Nat) (T : zS), i + k = 12 → aI2 i T → z_G (mLw hh) F (0) 87 [some (zR 49), some (zR 0), some (zR 7), some (zR 40), some (zR 41), some (zR 42), some (zR 43), some (zR 44), some (zR 48), some (zR 45), some (zR 46), some (zR 47), some (zI (i : Int)), none, none, none, none, none, none, none, none, none, none, none, none, none, none, none, none, none, none, none, none, none, none, none, none, none, none, none, none, none, none, none, none, none, none, none, none, none] [] T := by
  intro k
  induction k with
  | zero =>
    intro i T hi hT
    have e : i = 12 := by omega
    subst e
    have hk := hK T hT
    clear hK
    refine g_iload (q := 89) dL_law_87 rfl rfl ?_
    refine g_bipush (q := 91) dL_law_89 rfl ⟨by decide, by decide⟩ (by decide) ?_
    refine g_icmp_ge (t := 136) (q := 94) dL_law_91 (by decide) rfl (fun h91 => ?_) (fun h91 => (False.elim (by omega)))
    exact g_forget (z_sub_r (z_sub_r (z_sub_r (z_sub_r (z_sub_r (z_sub_r (z_sub_r (z_sub_r (z_sub_r (z_sub_r (z_sub_r (z_sub_r (z_sub_n (z_sub_n (z_sub_n (z_sub_n (z_sub_n (z_sub_n (z_sub_n (z_sub_n (z_sub_n (z_sub_n (z_sub_n (z_sub_n (z_sub_n (z_sub_n (z_sub_n (z_sub_n (z_sub_n (z_sub_n (z_sub_n (z_sub_n (z_sub_n (z_sub_n (z_sub_n (z_sub_n (z_sub_n (z_sub_n (z_sub_n (z_sub_n (z_sub_n (z_sub_n (z_sub_n (z_sub_n (z_sub_n (z_sub_n (z_sub_n (z_sub_n (z_sub_n (z_sub_n z_sub_0)))))))))))))))))))))))))))))))))))))))))))))))))) hk
  | succ k ih =>
    intro i T hi hT
    obtain ⟨h1, h2, h3, h4, h5, h6⟩ := hT
    obtain ⟨T1, e1⟩ : ∃ Z, Z = z_sA T 40 i (-1) := ⟨_, rfl⟩
    obtain ⟨T2, e2⟩ : ∃ Z, Z = z_sA T1 40 (24 + (i : Int)) (-1) := ⟨_, rfl⟩
    obtain ⟨T3, e3⟩ : ∃ Z, Z = z_sA T2 40 (24 + (i : Int) + 12) (-1) := ⟨_, rfl⟩
    obtain ⟨T4, e4⟩ : ∃ Z, Z = z_sA T3 40 (24 + (i : Int) + 12 + 12) (-1) := ⟨_, rfl⟩
    have hnx := ih (i + 1) (z_sA T4 41 i (-1)) (by omega) (by
      have e40 : ∀ j : Int, (z_sA T4 41 i (-1)).2.1 40 j = if j = i ∨ j = 24 + i ∨ j = 36 + i ∨ j = 48 + i then -1 else T.2.1 40 j := by
        intro j
        rw [za_ne (by omega), e4]
        by_cases c4 : j = 24 + (i : Int) + 12 + 12
        · rw [c4, za_eq, if_pos (by omega)]
        · rw [za_ni c4, e3]
          by_cases c3 : j = 24 + (i : Int) + 12
          · rw [c3, za_eq, if_pos (by omega)]
          · rw [za_ni c3, e2]
            by_cases c2 : j = 24 + (i : Int)
            · rw [c2, za_eq, if_pos (by omega)]
            · rw [za_ni c2, e1]
              by_cases c1 : j = i
              · rw [c1, za_eq, if_pos (by omega)]
              · rw [za_ni c1, if_neg (by omega)]
      refine ⟨?_, fun j x y => ?_, fun j x y => ?_, fun j x y => ?_, fun q j a => ?_, ?_⟩
      · rw [e4, e3, e2, e1]
        exact zcl_w (zcl_w (zcl_w (zcl_w (zcl_w h1 (by omega)) (by omega)) (by omega)) (by omega)) (by omega)
      · rw [za_ne (by omega), e4, za_ne (by omega), e3, za_ne (by omega), e2, za_ne (by omega), e1, za_ne (by omega)]
        exact h2 j x y
      · rw [e40, e40, e40, e40]
        by_cases c : j = i
        · rw [if_pos (by omega), if_pos (by omega), if_pos (by omega), if_pos (by omega)]
          exact ⟨rfl, rfl, rfl, rfl⟩
        · rw [if_neg (by omega), if_neg (by omega), if_neg (by omega), if_neg (by omega)]
          exact h3 j x (by omega)
      · rw [e40, if_neg (by omega)]
        exact h4 j x y
      · rw [za_ne (by omega), e4, za_ne (by omega), e3, za_ne (by omega), e2, za_ne (by omega), e1, za_ne (by omega)]
        exact h5 q j a
      · rw [e4, e3, e2, e1]
        exact h6)
    clear hK ih h1 h2 h3 h4 h5 h6
    have k60 : z_G (mLw hh) F (0) 106 [some (zR 49), some (zR 0), some (zR 7), some (zR 40), some (zR 41), some (zR 42), some (zR 43), some (zR 44), some (zR 48), some (zR 45), some (zR 46), some (zR 47), some (zI (i : Int)), some (zI (24 + (i : Int) + 12 + 12 + 12)), none, none, none, none, none, none, none, none, none, none, none, none, none, none, none, none, none, none, none, none, none, none, none, none, none, none, none, none, none, none, none, none, none, none, none, none] [] T4 := by
      refine g_iload (q := 108) dL_law_106 rfl rfl ?_
      refine g_bipush (q := 110) dL_law_108 rfl ⟨by decide, by decide⟩ (by decide) ?_
      refine g_icmp_ge (t := 124) (q := 113) dL_law_110 (by decide) rfl (fun h110 => ?_) (fun h110 => (False.elim (by omega)))
      refine g_aload (q := 126) dL_law_124 rfl rfl ?_
      refine g_iload (q := 128) dL_law_126 rfl rfl ?_
      refine g_iconst (q := 129) dL_law_128 rfl ⟨by decide, by decide⟩ ?_
      refine g_iast (q := 130) dL_law_129 rfl ⟨by decide, rfl, rfl⟩ (by omega) (by omega) ?_
      refine g_iinc (q := 133) (i := 12) (n := 1) dL_law_130 rfl rfl (by constructor <;> omega) ?_
      refine g_goto (q := 0) (t := 87) dL_law_133 (by decide) ?_
      exact g_forget (z_sub_r (z_sub_r (z_sub_r (z_sub_r (z_sub_r (z_sub_r (z_sub_r (z_sub_r (z_sub_r (z_sub_r (z_sub_r (z_sub_r (z_sub_r (z_sub_n (z_sub_n (z_sub_n (z_sub_n (z_sub_n (z_sub_n (z_sub_n (z_sub_n (z_sub_n (z_sub_n (z_sub_n (z_sub_n (z_sub_n (z_sub_n (z_sub_n (z_sub_n (z_sub_n (z_sub_n (z_sub_n (z_sub_n (z_sub_n (z_sub_n (z_sub_n (z_sub_n (z_sub_n (z_sub_n (z_sub_n (z_sub_n (z_sub_n (z_sub_n (z_sub_n (z_sub_n (z_sub_n (z_sub_n (z_sub_n (z_sub_n (z_sub_n z_sub_0)))))))))))))))))))))))))))))))))))))))))))))))))) hnx
    rw [e4] at k60
    have k48 : z_G (mLw hh) F (0) 106 [some (zR 49), some (zR 0), some (zR 7), some (zR 40), some (zR 41), some (zR 42), some (zR 43), some (zR 44), some (zR 48), some (zR 45), some (zR 46), some (zR 47), some (zI (i : Int)), some (zI (24 + (i : Int) + 12 + 12)), none, none, none, none, none, none, none, none, none, none, none, none, none, none, none, none, none, none, none, none, none, none, none, none, none, none, none, none, none, none, none, none, none, none, none, none] [] T3 := by
      refine g_iload (q := 108) dL_law_106 rfl rfl ?_
      refine g_bipush (q := 110) dL_law_108 rfl ⟨by decide, by decide⟩ (by decide) ?_
      refine g_icmp_ge (t := 124) (q := 113) dL_law_110 (by decide) rfl (fun h110 => (False.elim (by omega))) (fun h110 => ?_)
      refine g_aload_n (i := 3) (q := 114) dL_law_113 rfl rfl rfl ?_
      refine g_iload (q := 116) dL_law_114 rfl rfl ?_
      refine g_iconst (q := 117) dL_law_116 rfl ⟨by decide, by decide⟩ ?_
      refine g_iast (q := 118) dL_law_117 rfl ⟨by decide, rfl, rfl⟩ (by omega) (by omega) ?_
      refine g_iinc (q := 121) (i := 13) (n := 12) dL_law_118 rfl rfl (by constructor <;> omega) ?_
      refine g_goto (q := 0) (t := 106) dL_law_121 (by decide) ?_
      exact k60
    rw [e3] at k48
    have k36 : z_G (mLw hh) F (0) 106 [some (zR 49), some (zR 0), some (zR 7), some (zR 40), some (zR 41), some (zR 42), some (zR 43), some (zR 44), some (zR 48), some (zR 45), some (zR 46), some (zR 47), some (zI (i : Int)), some (zI (24 + (i : Int) + 12)), none, none, none, none, none, none, none, none, none, none, none, none, none, none, none, none, none, none, none, none, none, none, none, none, none, none, none, none, none, none, none, none, none, none, none, none] [] T2 := by
      refine g_iload (q := 108) dL_law_106 rfl rfl ?_
      refine g_bipush (q := 110) dL_law_108 rfl ⟨by decide, by decide⟩ (by decide) ?_
      refine g_icmp_ge (t := 124) (q := 113) dL_law_110 (by decide) rfl (fun h110 => (False.elim (by omega))) (fun h110 => ?_)
      refine g_aload_n (i := 3) (q := 114) dL_law_113 rfl rfl rfl ?_
      refine g_iload (q := 116) dL_law_114 rfl rfl ?_
      refine g_iconst (q := 117) dL_law_116 rfl ⟨by decide, by decide⟩ ?_
      refine g_iast (q := 118) dL_law_117 rfl ⟨by decide, rfl, rfl⟩ (by omega) (by omega) ?_
      refine g_iinc (q := 121) (i := 13) (n := 12) dL_law_118 rfl rfl (by constructor <;> omega) ?_
      refine g_goto (q := 0) (t := 106) dL_law_121 (by decide) ?_
      exact k48
    rw [e2] at k36
    have k24 : z_G (mLw hh) F (0) 106 [some (zR 49), some (zR 0), some (zR 7), some (zR 40), some (zR 41), some (zR 42), some (zR 43), some (zR 44), some (zR 48), some (zR 45), some (zR 46), some (zR 47), some (zI (i : Int)), some (zI (24 + (i : Int))), none, none, none, none, none, none, none, none, none, none, none, none, none, none, none, none, none, none, none, none, none, none, none, none, none, none, none, none, none, none, none, none, none, none, none, none] [] T1 := by
      refine g_iload (q := 108) dL_law_106 rfl rfl ?_
      refine g_bipush (q := 110) dL_law_108 rfl ⟨by decide, by decide⟩ (by decide) ?_
      refine g_icmp_ge (t := 124) (q := 113) dL_law_110 (by decide) rfl (fun h110 => (False.elim (by omega))) (fun h110 => ?_)
      refine g_aload_n (i := 3) (q := 114) dL_law_113 rfl rfl rfl ?_
      refine g_iload (q := 116) dL_law_114 rfl rfl ?_
      refine g_iconst (q := 117) dL_law_116 rfl ⟨by decide, by decide⟩ ?_
      refine g_iast (q := 118) dL_law_117 rfl ⟨by decide, rfl, rfl⟩ (by omega) (by omega) ?_
      refine g_iinc (q := 121) (i := 13) (n := 12) dL_law_118 rfl rfl (by constructor <;> omega) ?_
      refine g_goto (q := 0) (t := 106) dL_law_121 (by decide) ?_
      exact k36
    rw [e1] at k24
    refine g_iload (q := 89) dL_law_87 rfl rfl ?_
    refine g_bipush (q := 91) dL_law_89 rfl ⟨by decide, by decide⟩ (by decide) ?_
    refine g_icmp_ge (t := 136) (q := 94) dL_law_91 (by decide) rfl (fun h91 => (False.elim (by omega))) (fun h91 => ?_)
    refine g_aload_n (i := 3) (q := 95) dL_law_94 rfl rfl rfl ?_
    refine g_iload (q := 97) dL_law_95 rfl rfl ?_
    refine g_iconst (q := 98) dL_law_97 rfl ⟨by decide, by decide⟩ ?_
    refine g_iast (q := 99) dL_law_98 rfl ⟨by decide, rfl, rfl⟩ (by omega) (by omega) ?_
    refine g_bipush (q := 101) dL_law_99 rfl ⟨by decide, by decide⟩ (by decide) ?_
    refine g_iload (q := 103) dL_law_101 rfl rfl ?_
    refine g_iadd (q := 104) dL_law_103 rfl (by constructor <;> omega) ?_
    refine g_istore (q := 106) dL_law_104 rfl (Nat.le_of_ble_eq_true rfl) ?_
    exact k24
theorem lc_i4 {i : Int} (hi : 0 ≤ i ∧ i < 6) : ∀ (k j : Nat) (T : zS), j + k = 12 → T.2.2 i = z6 j → (∀ U : zS, U.1 = T.1 → U.2.1 = T.2.1 → U.2.2 i = z6 12 → (∀ f, f ≠ i → U.2.2 f = T.2.2 f) → z_G (mLw hh) F (0) 185 [some (zR 49), some (zR 0), some (zR 7), some (zR 40), some (zR 41), some (zR 42), some (zR 43), some (zR 44), some (zR 48), some (zR 45), some (zR 46), some (zR 47), some (zI i), none, none, none, none, none, none, none, none, none, none, none, none, none, none, none, none, none, none, none, none, none, none, none, none, none, none, none, none, none, none, none, none, none, none, none, none, none] [] U) → z_G (mLw hh) F (0) 156 [some (zR 49), some (zR 0), some (zR 7), some (zR 40), some (zR 41), some (zR 42), some (zR 43), some (zR 44), some (zR 48), some (zR 45), some (zR 46), some (zR 47), some (zI i), some (zI (j : Int)), none, none, none, none, none, none, none, none, none, none, none, none, none, none, none, none, none, none, none, none, none, none, none, none, none, none, none, none, none, none, none, none, none, none, none, none] [] T := by
  intro k
  induction k with
  | zero =>
    intro j T hj h6 hK
    have e : j = 12 := by omega
    subst e
    have hk := hK T rfl rfl h6 (fun _ _ => rfl)
    clear hK
    refine g_iload (q := 158) dL_law_156 rfl rfl ?_
    refine g_bipush (q := 160) dL_law_158 rfl ⟨by decide, by decide⟩ (by decide) ?_
    refine g_icmp_ge (t := 185) (q := 163) dL_law_160 (by decide) rfl (fun h160 => ?_) (fun h160 => (False.elim (by omega)))
    exact g_forget (z_sub_r (z_sub_r (z_sub_r (z_sub_r (z_sub_r (z_sub_r (z_sub_r (z_sub_r (z_sub_r (z_sub_r (z_sub_r (z_sub_r (z_sub_r (z_sub_n (z_sub_n (z_sub_n (z_sub_n (z_sub_n (z_sub_n (z_sub_n (z_sub_n (z_sub_n (z_sub_n (z_sub_n (z_sub_n (z_sub_n (z_sub_n (z_sub_n (z_sub_n (z_sub_n (z_sub_n (z_sub_n (z_sub_n (z_sub_n (z_sub_n (z_sub_n (z_sub_n (z_sub_n (z_sub_n (z_sub_n (z_sub_n (z_sub_n (z_sub_n (z_sub_n (z_sub_n (z_sub_n (z_sub_n (z_sub_n (z_sub_n (z_sub_n z_sub_0)))))))))))))))))))))))))))))))))))))))))))))))))) hk
  | succ k ih =>
    intro j T hj h6 hK
    have hnx := ih (j + 1) (z_sL T i (z6 (j + 1))) (by omega) (by rw [zl_sL, if_pos rfl]) (fun U u1 u2 u3 u4 => hK U u1 u2 u3 (fun f hf => by rw [u4 f hf, zl_sL, if_neg hf]))
    have hor := z6_or j (by omega)
    rw [← h6] at hor
    clear hK ih
    refine g_iload (q := 158) dL_law_156 rfl rfl ?_
    refine g_bipush (q := 160) dL_law_158 rfl ⟨by decide, by decide⟩ (by decide) ?_
    refine g_icmp_ge (t := 185) (q := 163) dL_law_160 (by decide) rfl (fun h160 => (False.elim (by omega))) (fun h160 => ?_)
    refine g_aload (q := 165) dL_law_163 rfl rfl ?_
    refine g_iload (q := 167) dL_law_165 rfl rfl ?_
    refine g_dup2 (q := 168) dL_law_167 rfl trivial trivial ?_
    refine g_lald (q := 169) dL_law_168 rfl (by omega) (by omega) ?_
    refine g_ldc2 (z := 6) (q := 172) dL_law_169 rfl lk_179 (by constructor <;> decide) ?_
    refine g_iconst (q := 173) dL_law_172 rfl ⟨by decide, by decide⟩ ?_
    refine g_iload (q := 175) dL_law_173 rfl rfl ?_
    refine g_imul (q := 176) dL_law_175 rfl (by constructor <;> omega) ?_
    refine g_lshlv (q := 177) (z := zLshl 6 (3 * (j : Int))) dL_law_176 rfl (rfl) ?_
    refine g_lorv (q := 178) (z := z6 (j + 1)) dL_law_177 rfl (hor) ?_
    refine g_last (q := 179) dL_law_178 rfl (by omega) (by omega) ?_
    refine g_iinc (q := 182) (i := 13) (n := 1) dL_law_179 rfl rfl (by constructor <;> omega) ?_
    refine g_goto (q := 0) (t := 156) dL_law_182 (by decide) ?_
    exact hnx
theorem lc_i3 (hK : ∀ U, aI3 6 U → z_G (mLw hh) F (0) 191 [some (zR 49), some (zR 0), some (zR 7), some (zR 40), some (zR 41), some (zR 42), some (zR 43), some (zR 44), some (zR 48), some (zR 45), some (zR 46), some (zR 47), none, none, none, none, none, none, none, none, none, none, none, none, none, none, none, none, none, none, none, none, none, none, none, none, none, none, none, none, none, none, none, none, none, none, none, none, none, none] [] U) : ∀ (k i : Nat) (T : zS), i + k = 6 → aI3 i T → z_G (mLw hh) F (0) 139 [some (zR 49), some (zR 0), some (zR 7), some (zR 40), some (zR 41), some (zR 42), some (zR 43), some (zR 44), some (zR 48), some (zR 45), some (zR 46), some (zR 47), some (zI (i : Int)), none, none, none, none, none, none, none, none, none, none, none, none, none, none, none, none, none, none, none, none, none, none, none, none, none, none, none, none, none, none, none, none, none, none, none, none, none] [] T := by
  intro k
  induction k with
  | zero =>
    intro i T hi hT
    have e : i = 6 := by omega
    subst e
    have hk := hK T hT
    clear hK
    refine g_iload (q := 141) dL_law_139 rfl rfl ?_
    refine g_bipush (q := 143) dL_law_141 rfl ⟨by decide, by decide⟩ (by decide) ?_
    refine g_icmp_ge (t := 191) (q := 146) dL_law_143 (by decide) rfl (fun h143 => ?_) (fun h143 => (False.elim (by omega)))
    exact g_forget (z_sub_r (z_sub_r (z_sub_r (z_sub_r (z_sub_r (z_sub_r (z_sub_r (z_sub_r (z_sub_r (z_sub_r (z_sub_r (z_sub_r (z_sub_n (z_sub_n (z_sub_n (z_sub_n (z_sub_n (z_sub_n (z_sub_n (z_sub_n (z_sub_n (z_sub_n (z_sub_n (z_sub_n (z_sub_n (z_sub_n (z_sub_n (z_sub_n (z_sub_n (z_sub_n (z_sub_n (z_sub_n (z_sub_n (z_sub_n (z_sub_n (z_sub_n (z_sub_n (z_sub_n (z_sub_n (z_sub_n (z_sub_n (z_sub_n (z_sub_n (z_sub_n (z_sub_n (z_sub_n (z_sub_n (z_sub_n (z_sub_n (z_sub_n z_sub_0)))))))))))))))))))))))))))))))))))))))))))))))))) hk
  | succ k ih =>
    intro i T hi hT
    obtain ⟨h1, h2, h3, h4, h5, h6, h7⟩ := hT
    have k56 := lc_i4 (hh := hh) (F := F) (i := (i : Int)) (by omega) 12 0 (z_sA T 46 i 4194304) (by omega) (by show T.2.2 i = 0; exact h7 i (by omega)) (fun U u1 u2 u3 u4 => by
      have hnx := ih (i + 1) U (by omega) (by
        refine ⟨⟨fun q hq => by rw [u1]; exact h1.1 q hq, fun k a b c => by rw [u2]; exact (funext fun m => za_ne (by omega)).trans (h1.2 k a b c)⟩, fun j x y => by rw [u2, za_ne (by omega)]; exact h2 j x y, fun j x y => by rw [u2, za_ne (by omega), za_ne (by omega), za_ne (by omega), za_ne (by omega)]; exact h3 j x y, fun j x y => by rw [u2, za_ne (by omega)]; exact h4 j x y, fun q j a b => by rw [u2, za_ne b]; exact h5 q j a b, fun f x y => ?_, fun f x => ?_⟩
        · by_cases c : f = i
          · rw [c, u2, za_eq]
            exact ⟨rfl, u3⟩
          · rw [u2, za_ni c, u4 f c]
            exact h6 f x (by omega)
        · rw [u4 f (by omega)]
          exact h7 f (by omega))
      clear hK ih
      refine g_iinc (q := 188) (i := 12) (n := 1) dL_law_185 rfl rfl (by constructor <;> omega) ?_
      refine g_goto (q := 0) (t := 139) dL_law_188 (by decide) ?_
      exact hnx)
    clear hK ih
    refine g_iload (q := 141) dL_law_139 rfl rfl ?_
    refine g_bipush (q := 143) dL_law_141 rfl ⟨by decide, by decide⟩ (by decide) ?_
    refine g_icmp_ge (t := 191) (q := 146) dL_law_143 (by decide) rfl (fun h143 => (False.elim (by omega))) (fun h143 => ?_)
    refine g_aload (q := 148) dL_law_146 rfl rfl ?_
    refine g_iload (q := 150) dL_law_148 rfl rfl ?_
    refine g_ldc (z := 4194304) (q := 152) dL_law_150 rfl lk_178 (by constructor <;> decide) ?_
    refine g_iast (q := 153) dL_law_152 rfl ⟨by decide, rfl, rfl⟩ (by omega) (by omega) ?_
    refine g_iconst (q := 154) dL_law_153 rfl ⟨by decide, by decide⟩ ?_
    refine g_istore (q := 156) dL_law_154 rfl (Nat.le_of_ble_eq_true rfl) ?_
    exact k56
theorem lc_init (hK : ∀ U, aI3 6 U → z_G (mLw hh) F (0) 194 [some (zR 49), some (zR 0), some (zR 7), some (zR 40), some (zR 41), some (zR 42), some (zR 43), some (zR 44), some (zR 48), some (zR 45), some (zR 46), some (zR 47), some (zI ((0 : Nat) : Int)), none, none, none, none, none, none, none, none, none, none, none, none, none, none, none, none, none, none, none, none, none, none, none, none, none, none, none, none, none, none, none, none, none, none, none, none, none] [] U) : z_G (mLw hh) F (0) 64 [some (zR 49), some (zR 0), some (zR 7), some (zR 40), some (zR 41), some (zR 42), some (zR 43), some (zR 44), some (zR 48), some (zR 45), some (zR 46), some (zR 47), none, none, none, none, none, none, none, none, none, none, none, none, none, none, none, none, none, none, none, none, none, none, none, none, none, none, none, none, none, none, none, none, none, none, none, none, none, none] [] a_S0 := by
  have k91 : ∀ U, aI3 6 U → z_G (mLw hh) F (0) 191 [some (zR 49), some (zR 0), some (zR 7), some (zR 40), some (zR 41), some (zR 42), some (zR 43), some (zR 44), some (zR 48), some (zR 45), some (zR 46), some (zR 47), none, none, none, none, none, none, none, none, none, none, none, none, none, none, none, none, none, none, none, none, none, none, none, none, none, none, none, none, none, none, none, none, none, none, none, none, none, none] [] U := by
    intro U hU
    have hk := hK U hU
    clear hK
    refine g_iconst (q := 192) dL_law_191 rfl ⟨by decide, by decide⟩ ?_
    refine g_istore (q := 194) dL_law_192 rfl (Nat.le_of_ble_eq_true rfl) ?_
    exact hk
  have k36 : ∀ U, aI2 12 U → z_G (mLw hh) F (0) 136 [some (zR 49), some (zR 0), some (zR 7), some (zR 40), some (zR 41), some (zR 42), some (zR 43), some (zR 44), some (zR 48), some (zR 45), some (zR 46), some (zR 47), none, none, none, none, none, none, none, none, none, none, none, none, none, none, none, none, none, none, none, none, none, none, none, none, none, none, none, none, none, none, none, none, none, none, none, none, none, none] [] U := by
    intro U hU
    have hk := lc_i3 k91 6 0 U (by omega) ⟨hU.1, hU.2.1, hU.2.2.1, hU.2.2.2.1, fun q j a _ => hU.2.2.2.2.1 q j a, fun f x y => absurd y (by omega), fun f _ => hU.2.2.2.2.2 f⟩
    clear k91 hK
    refine g_iconst (q := 137) dL_law_136 rfl ⟨by decide, by decide⟩ ?_
    refine g_istore (q := 139) dL_law_137 rfl (Nat.le_of_ble_eq_true rfl) ?_
    exact hk
  have k84 : ∀ U, aI1 4 U → z_G (mLw hh) F (0) 84 [some (zR 49), some (zR 0), some (zR 7), some (zR 40), some (zR 41), some (zR 42), some (zR 43), some (zR 44), some (zR 48), some (zR 45), some (zR 46), some (zR 47), none, none, none, none, none, none, none, none, none, none, none, none, none, none, none, none, none, none, none, none, none, none, none, none, none, none, none, none, none, none, none, none, none, none, none, none, none, none] [] U := by
    intro U hU
    have hk := lc_i2 k36 12 0 U (by omega) ⟨hU.1, fun j x y => hU.2.1 j x (by omega), fun j x y => absurd y (by omega), fun j _ _ => hU.2.2.1 40 j (by omega), fun q j a => hU.2.2.1 q j (by omega), hU.2.2.2⟩
    clear k36 k91 hK
    refine g_iconst (q := 85) dL_law_84 rfl ⟨by decide, by decide⟩ ?_
    refine g_istore (q := 87) dL_law_85 rfl (Nat.le_of_ble_eq_true rfl) ?_
    exact hk
  have hk := lc_i1 k84 4 0 a_S0 (by omega) ⟨zcl.rf, fun j x y => absurd y (by omega), fun q j a => by
    show a_A0 q = 0
    unfold a_A0
    rw [if_neg (by omega), if_neg (by omega)], fun _ => rfl⟩
  clear k84 k36 k91 hK
  refine g_iconst (q := 65) dL_law_64 rfl ⟨by decide, by decide⟩ ?_
  refine g_istore (q := 67) dL_law_65 rfl (Nat.le_of_ble_eq_true rfl) ?_
  exact hk
end
theorem a_inv {U : zS} (h : aI3 6 U) : zInv 0 U := by
  obtain ⟨⟨c1, c2⟩, h2, h3, h4, h5, h6, -⟩ := h
  have s : ∀ i, i ≠ 4 → U.1 i = 0 := fun i hi => c1 i hi
  have c : ∀ k, 8 ≤ k → k < 39 → ∀ j, U.2.1 k j = a_A0 k := fun k a b j => by rw [c2 k a (by omega) (by omega)]; rfl
  have g : ∀ f : Int, 0 ≤ f → f < 6 → ∀ j, U.2.1 (30 + f.toNat) j = 6 := fun f a b j => by
    rw [c _ (by omega) (by omega)]
    unfold a_A0
    rw [if_neg (by omega), if_pos (by omega)]
  have s0 := s 0 (by omega)
  have s1 := s 1 (by omega)
  have s2 := s 2 (by omega)
  have s3 := s 3 (by omega)
  have e8 : ∀ j, U.2.1 8 j = -1 := c 8 (by omega) (by omega)
  have e9 : ∀ j, U.2.1 9 j = 0 := c 9 (by omega) (by omega)
  have e10 : ∀ j, U.2.1 10 j = 0 := c 10 (by omega) (by omega)
  have e11 : ∀ j, U.2.1 11 j = 0 := c 11 (by omega) (by omega)
  have e12 : ∀ j, U.2.1 12 j = 0 := c 12 (by omega) (by omega)
  have e13 : ∀ j, U.2.1 13 j = -1 := c 13 (by omega) (by omega)
  have e14 : ∀ j, U.2.1 14 j = 0 := c 14 (by omega) (by omega)
  have e15 : ∀ j, U.2.1 15 j = -1 := c 15 (by omega) (by omega)
  have e16 : ∀ j, U.2.1 16 j = -1 := c 16 (by omega) (by omega)
  have e17 : ∀ j, U.2.1 17 j = -1 := c 17 (by omega) (by omega)
  have e18 : ∀ j, U.2.1 18 j = -1 := c 18 (by omega) (by omega)
  have e28 : ∀ j, U.2.1 28 j = 0 := c 28 (by omega) (by omega)
  have e47 : ∀ j, U.2.1 47 j = 0 := fun j => h5 47 j (by omega) (by omega)
  have e45 : ∀ j, U.2.1 45 j = 0 := fun j => h5 45 j (by omega) (by omega)
  refine ⟨?_, fun f a b => by rw [e12, s2]; omega, by rw [s3, s2]; omega, by rw [s2]; omega⟩
  refine ⟨?_, ?_, ?_, ?_, ?_, ?_, ?_, ?_, ?_, ?_, ?_, ?_, ?_, ?_, ?_, ?_, ?_, ?_, ?_, ?_, ?_, ?_, ?_, ?_, ?_, ?_, ?_, ?_, ?_, ?_, ?_⟩
  · rw [e47, s0]
  · rw [s0]; omega
  · rw [e47, s1]
  · rw [s1]; omega
  · rw [e47, s2]
  · rw [s2]; omega
  · intro b x y; rw [h2 b x y, e8]; omega
  · intro b x y; exact e8 b
  · intro f x y; rw [e9, e10, e11]; omega
  · intro f x y; rw [(h6 f x (by omega)).1, e9, e10, e11, e12]; omega
  · intro f x y; rw [e45, e28, s2]; omega
  · intro i x y; rw [(h3 i x y).1, e13]; omega
  · intro i x y; rw [h4 (12 + i) (by omega) (by omega), e14]; omega
  · intro i x y; rw [(h3 i x y).2.1, e15]
  · intro i x y; rw [(h3 i x y).2.2.1, e16]
  · intro i x y; rw [(h3 i x y).2.2.2, e17]
  · intro i x y w; exact absurd (e13 _) w
  · intro i x y w; exact e18 _
  · intro i x y w; exact absurd (e13 _) w
  · intro m x y w; exact ⟨e13 m, e15 m⟩
  · intro a x y; exact absurd y (by omega)
  · intro a x y; exact absurd y (by omega)
  · intro a x y; exact absurd y (by omega)
  · intro a x y; exact absurd y (by omega)
  · intro a b x y; exact absurd y (by omega)
  · intro a x y; exact absurd y (by omega)
  · intro f i x y z w
    rw [g f x y, (h6 f x (by omega)).2]
    have q := z6_dig i.toNat (by omega)
    rw [show ((i.toNat : Nat) : Int) = i by omega] at q
    exact q.symm
  · intro f m x y z w; rw [g f x y]; omega
  · intro f x y; rw [(h6 f x (by omega)).2]; exact z6_12
  · intro m x y
    rw [s3, e13]
    rfl
  · rw [s3]; omega
