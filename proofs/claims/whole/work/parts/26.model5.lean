/-! ===== the reference: a firm ends ===== -/
theorem y_en2_rng {f h : Int} (k : Nat) : ∀ (i : Nat) (S : zS), 0 ≤ y_en2 S f h i k ∧ y_en2 S f h i k ≤ k := by
  induction k with
  | zero => intro i S; rw [y_en2_0]; omega
  | succ k ih =>
    intro i S
    have h1 := ih (i + 1) (y_e1 S f h i)
    have h2 : 0 ≤ y_e1n S f i ∧ y_e1n S f i ≤ 1 := by unfold y_e1n; split <;> omega
    rw [y_en2_s]
    omega
theorem l_X7_endFirm1 {Q : zQ} {f h : Int} (hf : 0 ≤ f ∧ f < 6) (hh : 0 ≤ h ∧ h < 6) : ∀ (k i : Nat) (S : zS) (d : Int), i + k = 200 → 0 ≤ S.1 8 → S.1 8 + k ≤ 4000 → 0 ≤ d ∧ d ≤ i → (∀ v5 v6 v7, z_G mX7_endFirm (z_F mX7_endFirm Q) 0 217 [some (zR 7), some (zI f), some (zI h), some (zI (d + y_en2 S f h i k)), some (zI 200), v5, v6, v7] [] (y_el S f h i k)) →
    ∀ v5 v6 v7, z_G mX7_endFirm (z_F mX7_endFirm Q) 0 75 [some (zR 7), some (zI f), some (zI h), some (zI d), some (zI (i : Int)), v5, v6, v7] [] S := by
  intro k
  induction k with
  | zero =>
    intro i S d hi h0 h8 hd hk v5 v6 v7
    rw [y_en2_0, Int.add_zero, y_el_0] at hk
    have e : i = 200 := by omega
    subst e
    refine g_iload (q := 77) dX7_endFirm_75 rfl rfl ?_
    refine g_sipush (q := 80) dX7_endFirm_77 rfl ⟨by decide, by decide⟩ (by decide) ?_
    refine g_icmp_ge (t := 217) (q := 83) dX7_endFirm_80 (by decide) rfl (fun h80 => ?_) (fun h80 => (False.elim (by omega)))
    exact hk _ _ _
  | succ k ih =>
    intro i S d hi h0 h8 hd hk v5 v6 v7
    rw [y_en2_s, y_el_s, ← Int.add_assoc] at hk
    obtain ⟨g1, g2, g3, -⟩ := y_e1_fr (S := S) (f := f) (h := h) (i := i)
    have hn := y_e1n S f i
    have hnx := ih (i + 1) (y_e1 S f h i) (d + y_e1n S f i) (by omega) (by omega) (by omega) (by unfold y_e1n; split <;> omega) hk
    clear ih hk
    by_cases c1 : S.2.1 42 i = f
    · have en : y_e1n S f i = 1 := by unfold y_e1n; rw [if_pos c1]
      rw [en] at hnx
      by_cases c2 : (if S.2.1 40 ((i : Int) / 10) = f then h else S.2.1 40 ((i : Int) / 10)) = h
      · by_cases c3 : S.2.1 42 i = S.2.1 40 ((i : Int) / 10)
        · have es : y_e1 S f h i = z_sA (z_sA S 42 i h) 47 i (-1) := by unfold y_e1; rw [if_pos c1, if_pos c2, if_pos c3]
          rw [es] at hnx
          rw [if_pos (by omega)] at c2
          refine g_iload (q := 77) dX7_endFirm_75 rfl rfl ?_
          refine g_sipush (q := 80) dX7_endFirm_77 rfl ⟨by decide, by decide⟩ (by decide) ?_
          refine g_icmp_ge (t := 217) (q := 83) dX7_endFirm_80 (by decide) rfl (fun h80 => (False.elim (by omega))) (fun h80 => ?_)
          refine g_aload_n (i := 0) (q := 84) dX7_endFirm_83 rfl rfl rfl ?_
          refine g_iload (q := 86) dX7_endFirm_84 rfl rfl ?_
          refine g_fnV (as := [zI (i : Int)]) (q := 89) (u' := 0) dX7_endFirm_86 rfl ck_X7_114 rfl rfl rfl (Nat.le_of_ble_eq_true rfl) (by decide) rfl (by decide) (t_holderOf (by omega)) rfl ?_
          refine g_istore (q := 91) dX7_endFirm_89 rfl (by decide) ?_
          refine g_aload_n (i := 0) (q := 92) dX7_endFirm_91 rfl rfl rfl ?_
          refine g_getr (q := 95) dX7_endFirm_92 rfl fk_X7_17 rfl rfl ?_
          refine g_iload (q := 97) dX7_endFirm_95 rfl rfl ?_
          refine g_ildv (q := 98) (z := S.2.1 42 (i : Int)) dX7_endFirm_97 rfl ⟨by decide, rfl, rfl⟩ (by omega) (by omega) rfl ?_
          refine g_iload (q := 100) dX7_endFirm_98 rfl rfl ?_
          refine g_icmp_ne (t := 107) (q := 103) dX7_endFirm_100 (by decide) rfl (fun h100 => (False.elim (by omega))) (fun h100 => ?_)
          refine g_iconst (q := 104) dX7_endFirm_103 rfl ⟨by decide, by decide⟩ ?_
          refine g_goto (q := 0) (t := 108) dX7_endFirm_104 (by decide) ?_
          refine g_istore (q := 110) dX7_endFirm_108 rfl (by decide) ?_
          refine g_iload (q := 112) dX7_endFirm_110 rfl rfl ?_
          refine g_iload_n (i := 1) (q := 113) dX7_endFirm_112 rfl rfl rfl ?_
          refine g_icmp_ne (t := 120) (q := 116) dX7_endFirm_113 (by decide) rfl (fun h113 => (False.elim (by omega))) (fun h113 => ?_)
          refine g_iload_n (i := 2) (q := 117) dX7_endFirm_116 rfl rfl rfl ?_
          refine g_goto (q := 0) (t := 122) dX7_endFirm_117 (by decide) ?_
          refine g_istore (q := 124) dX7_endFirm_122 rfl (by decide) ?_
          refine g_aload_n (i := 0) (q := 125) dX7_endFirm_124 rfl rfl rfl ?_
          refine g_getr (q := 128) dX7_endFirm_125 rfl fk_X7_17 rfl rfl ?_
          refine g_iload (q := 130) dX7_endFirm_128 rfl rfl ?_
          refine g_ildv (q := 131) (z := S.2.1 42 (i : Int)) dX7_endFirm_130 rfl ⟨by decide, rfl, rfl⟩ (by omega) (by omega) rfl ?_
          refine g_iload_n (i := 1) (q := 132) dX7_endFirm_131 rfl rfl rfl ?_
          refine g_icmp_ne (t := 186) (q := 135) dX7_endFirm_132 (by decide) rfl (fun h132 => (False.elim (by omega))) (fun h132 => ?_)
          refine g_iinc (q := 138) (i := 3) (n := 1) dX7_endFirm_135 rfl rfl (by constructor <;> omega) ?_
          refine g_aload_n (i := 0) (q := 139) dX7_endFirm_138 rfl rfl rfl ?_
          refine g_getr (q := 142) dX7_endFirm_139 rfl fk_X7_17 rfl rfl ?_
          refine g_iload (q := 144) dX7_endFirm_142 rfl rfl ?_
          refine g_iload_n (i := 2) (q := 145) dX7_endFirm_144 rfl rfl rfl ?_
          refine g_iast (q := 146) dX7_endFirm_145 rfl ⟨by decide, rfl, rfl⟩ (by omega) (by omega) ?_
          refine g_aload_n (i := 0) (q := 147) dX7_endFirm_146 rfl rfl rfl ?_
          refine g_getr (q := 150) dX7_endFirm_147 rfl fk_X7_32 rfl rfl ?_
          refine g_iload (q := 152) dX7_endFirm_150 rfl rfl ?_
          refine g_iconst (q := 153) dX7_endFirm_152 rfl ⟨by decide, by decide⟩ ?_
          refine g_iast (q := 154) dX7_endFirm_153 rfl ⟨by decide, rfl, rfl⟩ (by omega) (by omega) ?_
          refine g_iload (q := 156) dX7_endFirm_154 rfl rfl ?_
          refine g_iload_n (i := 2) (q := 157) dX7_endFirm_156 rfl rfl rfl ?_
          refine g_icmp_ne (t := 165) (q := 160) dX7_endFirm_157 (by decide) rfl (fun h157 => (False.elim (by omega))) (fun h157 => ?_)
          refine g_iload (q := 162) dX7_endFirm_160 rfl rfl ?_
          refine g_if_ne (t := 211) (q := 165) dX7_endFirm_162 (by decide) rfl (fun h162 => ?_) (fun h162 => (False.elim (by omega)))
          refine g_iinc (q := 214) (i := 4) (n := 1) dX7_endFirm_211 rfl rfl (by constructor <;> omega) ?_
          refine g_goto (q := 0) (t := 75) dX7_endFirm_214 (by decide) ?_
          exact hnx _ _ _
        · have es : y_e1 S f h i = y_chg (z_sA (z_sA S 42 i h) 47 i (-1)) i 6 := by unfold y_e1; rw [if_pos c1, if_pos c2, if_neg c3]
          rw [es] at hnx
          rw [if_neg (by omega)] at c2
          refine g_iload (q := 77) dX7_endFirm_75 rfl rfl ?_
          refine g_sipush (q := 80) dX7_endFirm_77 rfl ⟨by decide, by decide⟩ (by decide) ?_
          refine g_icmp_ge (t := 217) (q := 83) dX7_endFirm_80 (by decide) rfl (fun h80 => (False.elim (by omega))) (fun h80 => ?_)
          refine g_aload_n (i := 0) (q := 84) dX7_endFirm_83 rfl rfl rfl ?_
          refine g_iload (q := 86) dX7_endFirm_84 rfl rfl ?_
          refine g_fnV (as := [zI (i : Int)]) (q := 89) (u' := 0) dX7_endFirm_86 rfl ck_X7_114 rfl rfl rfl (Nat.le_of_ble_eq_true rfl) (by decide) rfl (by decide) (t_holderOf (by omega)) rfl ?_
          refine g_istore (q := 91) dX7_endFirm_89 rfl (by decide) ?_
          refine g_aload_n (i := 0) (q := 92) dX7_endFirm_91 rfl rfl rfl ?_
          refine g_getr (q := 95) dX7_endFirm_92 rfl fk_X7_17 rfl rfl ?_
          refine g_iload (q := 97) dX7_endFirm_95 rfl rfl ?_
          refine g_ildv (q := 98) (z := S.2.1 42 (i : Int)) dX7_endFirm_97 rfl ⟨by decide, rfl, rfl⟩ (by omega) (by omega) rfl ?_
          refine g_iload (q := 100) dX7_endFirm_98 rfl rfl ?_
          refine g_icmp_ne (t := 107) (q := 103) dX7_endFirm_100 (by decide) rfl (fun h100 => ?_) (fun h100 => (False.elim (by omega)))
          refine g_iconst (q := 108) dX7_endFirm_107 rfl ⟨by decide, by decide⟩ ?_
          refine g_istore (q := 110) dX7_endFirm_108 rfl (by decide) ?_
          refine g_iload (q := 112) dX7_endFirm_110 rfl rfl ?_
          refine g_iload_n (i := 1) (q := 113) dX7_endFirm_112 rfl rfl rfl ?_
          refine g_icmp_ne (t := 120) (q := 116) dX7_endFirm_113 (by decide) rfl (fun h113 => ?_) (fun h113 => (False.elim (by omega)))
          refine g_iload (q := 122) dX7_endFirm_120 rfl rfl ?_
          refine g_istore (q := 124) dX7_endFirm_122 rfl (by decide) ?_
          refine g_aload_n (i := 0) (q := 125) dX7_endFirm_124 rfl rfl rfl ?_
          refine g_getr (q := 128) dX7_endFirm_125 rfl fk_X7_17 rfl rfl ?_
          refine g_iload (q := 130) dX7_endFirm_128 rfl rfl ?_
          refine g_ildv (q := 131) (z := S.2.1 42 (i : Int)) dX7_endFirm_130 rfl ⟨by decide, rfl, rfl⟩ (by omega) (by omega) rfl ?_
          refine g_iload_n (i := 1) (q := 132) dX7_endFirm_131 rfl rfl rfl ?_
          refine g_icmp_ne (t := 186) (q := 135) dX7_endFirm_132 (by decide) rfl (fun h132 => (False.elim (by omega))) (fun h132 => ?_)
          refine g_iinc (q := 138) (i := 3) (n := 1) dX7_endFirm_135 rfl rfl (by constructor <;> omega) ?_
          refine g_aload_n (i := 0) (q := 139) dX7_endFirm_138 rfl rfl rfl ?_
          refine g_getr (q := 142) dX7_endFirm_139 rfl fk_X7_17 rfl rfl ?_
          refine g_iload (q := 144) dX7_endFirm_142 rfl rfl ?_
          refine g_iload_n (i := 2) (q := 145) dX7_endFirm_144 rfl rfl rfl ?_
          refine g_iast (q := 146) dX7_endFirm_145 rfl ⟨by decide, rfl, rfl⟩ (by omega) (by omega) ?_
          refine g_aload_n (i := 0) (q := 147) dX7_endFirm_146 rfl rfl rfl ?_
          refine g_getr (q := 150) dX7_endFirm_147 rfl fk_X7_32 rfl rfl ?_
          refine g_iload (q := 152) dX7_endFirm_150 rfl rfl ?_
          refine g_iconst (q := 153) dX7_endFirm_152 rfl ⟨by decide, by decide⟩ ?_
          refine g_iast (q := 154) dX7_endFirm_153 rfl ⟨by decide, rfl, rfl⟩ (by omega) (by omega) ?_
          refine g_iload (q := 156) dX7_endFirm_154 rfl rfl ?_
          refine g_iload_n (i := 2) (q := 157) dX7_endFirm_156 rfl rfl rfl ?_
          refine g_icmp_ne (t := 165) (q := 160) dX7_endFirm_157 (by decide) rfl (fun h157 => (False.elim (by omega))) (fun h157 => ?_)
          refine g_iload (q := 162) dX7_endFirm_160 rfl rfl ?_
          refine g_if_ne (t := 211) (q := 165) dX7_endFirm_162 (by decide) rfl (fun h162 => (False.elim (by omega))) (fun h162 => ?_)
          refine g_aload_n (i := 0) (q := 166) dX7_endFirm_165 rfl rfl rfl ?_
          refine g_iload (q := 168) dX7_endFirm_166 rfl rfl ?_
          refine g_iload (q := 170) dX7_endFirm_168 rfl rfl ?_
          refine g_iload_n (i := 2) (q := 171) dX7_endFirm_170 rfl rfl rfl ?_
          refine g_icmp_ne (t := 179) (q := 174) dX7_endFirm_171 (by decide) rfl (fun h171 => (False.elim (by omega))) (fun h171 => ?_)
          refine g_bipush (q := 176) dX7_endFirm_174 rfl ⟨by decide, by decide⟩ (by decide) ?_
          refine g_goto (q := 0) (t := 180) dX7_endFirm_176 (by decide) ?_
          refine g_fnV (as := [zI (i : Int), zI 6]) (q := 183) (u' := 0) dX7_endFirm_180 rfl ck_X7_120 rfl rfl rfl (Nat.le_of_ble_eq_true rfl) (by decide) rfl (by decide) (t_changes (S := z_sA (z_sA S 42 i h) 47 i (-1)) (show 0 ≤ S.1 8 ∧ S.1 8 < 4000 by omega)) rfl ?_
          refine g_goto (q := 0) (t := 211) dX7_endFirm_183 (by decide) ?_
          refine g_iinc (q := 214) (i := 4) (n := 1) dX7_endFirm_211 rfl rfl (by constructor <;> omega) ?_
          refine g_goto (q := 0) (t := 75) dX7_endFirm_214 (by decide) ?_
          exact hnx _ _ _
      · have es : y_e1 S f h i = y_chg (z_sA (z_sA S 42 i h) 47 i (-1)) i h := by unfold y_e1; rw [if_pos c1, if_neg c2]
        rw [es] at hnx
        have c3 : ¬ S.2.1 40 ((i : Int) / 10) = f := fun q => c2 (if_pos q)
        rw [if_neg c3] at c2
        refine g_iload (q := 77) dX7_endFirm_75 rfl rfl ?_
        refine g_sipush (q := 80) dX7_endFirm_77 rfl ⟨by decide, by decide⟩ (by decide) ?_
        refine g_icmp_ge (t := 217) (q := 83) dX7_endFirm_80 (by decide) rfl (fun h80 => (False.elim (by omega))) (fun h80 => ?_)
        refine g_aload_n (i := 0) (q := 84) dX7_endFirm_83 rfl rfl rfl ?_
        refine g_iload (q := 86) dX7_endFirm_84 rfl rfl ?_
        refine g_fnV (as := [zI (i : Int)]) (q := 89) (u' := 0) dX7_endFirm_86 rfl ck_X7_114 rfl rfl rfl (Nat.le_of_ble_eq_true rfl) (by decide) rfl (by decide) (t_holderOf (by omega)) rfl ?_
        refine g_istore (q := 91) dX7_endFirm_89 rfl (by decide) ?_
        refine g_aload_n (i := 0) (q := 92) dX7_endFirm_91 rfl rfl rfl ?_
        refine g_getr (q := 95) dX7_endFirm_92 rfl fk_X7_17 rfl rfl ?_
        refine g_iload (q := 97) dX7_endFirm_95 rfl rfl ?_
        refine g_ildv (q := 98) (z := S.2.1 42 (i : Int)) dX7_endFirm_97 rfl ⟨by decide, rfl, rfl⟩ (by omega) (by omega) rfl ?_
        refine g_iload (q := 100) dX7_endFirm_98 rfl rfl ?_
        refine g_icmp_ne (t := 107) (q := 103) dX7_endFirm_100 (by decide) rfl (fun h100 => ?_) (fun h100 => (False.elim (by omega)))
        refine g_iconst (q := 108) dX7_endFirm_107 rfl ⟨by decide, by decide⟩ ?_
        refine g_istore (q := 110) dX7_endFirm_108 rfl (by decide) ?_
        refine g_iload (q := 112) dX7_endFirm_110 rfl rfl ?_
        refine g_iload_n (i := 1) (q := 113) dX7_endFirm_112 rfl rfl rfl ?_
        refine g_icmp_ne (t := 120) (q := 116) dX7_endFirm_113 (by decide) rfl (fun h113 => ?_) (fun h113 => (False.elim (by omega)))
        refine g_iload (q := 122) dX7_endFirm_120 rfl rfl ?_
        refine g_istore (q := 124) dX7_endFirm_122 rfl (by decide) ?_
        refine g_aload_n (i := 0) (q := 125) dX7_endFirm_124 rfl rfl rfl ?_
        refine g_getr (q := 128) dX7_endFirm_125 rfl fk_X7_17 rfl rfl ?_
        refine g_iload (q := 130) dX7_endFirm_128 rfl rfl ?_
        refine g_ildv (q := 131) (z := S.2.1 42 (i : Int)) dX7_endFirm_130 rfl ⟨by decide, rfl, rfl⟩ (by omega) (by omega) rfl ?_
        refine g_iload_n (i := 1) (q := 132) dX7_endFirm_131 rfl rfl rfl ?_
        refine g_icmp_ne (t := 186) (q := 135) dX7_endFirm_132 (by decide) rfl (fun h132 => (False.elim (by omega))) (fun h132 => ?_)
        refine g_iinc (q := 138) (i := 3) (n := 1) dX7_endFirm_135 rfl rfl (by constructor <;> omega) ?_
        refine g_aload_n (i := 0) (q := 139) dX7_endFirm_138 rfl rfl rfl ?_
        refine g_getr (q := 142) dX7_endFirm_139 rfl fk_X7_17 rfl rfl ?_
        refine g_iload (q := 144) dX7_endFirm_142 rfl rfl ?_
        refine g_iload_n (i := 2) (q := 145) dX7_endFirm_144 rfl rfl rfl ?_
        refine g_iast (q := 146) dX7_endFirm_145 rfl ⟨by decide, rfl, rfl⟩ (by omega) (by omega) ?_
        refine g_aload_n (i := 0) (q := 147) dX7_endFirm_146 rfl rfl rfl ?_
        refine g_getr (q := 150) dX7_endFirm_147 rfl fk_X7_32 rfl rfl ?_
        refine g_iload (q := 152) dX7_endFirm_150 rfl rfl ?_
        refine g_iconst (q := 153) dX7_endFirm_152 rfl ⟨by decide, by decide⟩ ?_
        refine g_iast (q := 154) dX7_endFirm_153 rfl ⟨by decide, rfl, rfl⟩ (by omega) (by omega) ?_
        refine g_iload (q := 156) dX7_endFirm_154 rfl rfl ?_
        refine g_iload_n (i := 2) (q := 157) dX7_endFirm_156 rfl rfl rfl ?_
        refine g_icmp_ne (t := 165) (q := 160) dX7_endFirm_157 (by decide) rfl (fun h157 => ?_) (fun h157 => (False.elim (by omega)))
        refine g_aload_n (i := 0) (q := 166) dX7_endFirm_165 rfl rfl rfl ?_
        refine g_iload (q := 168) dX7_endFirm_166 rfl rfl ?_
        refine g_iload (q := 170) dX7_endFirm_168 rfl rfl ?_
        refine g_iload_n (i := 2) (q := 171) dX7_endFirm_170 rfl rfl rfl ?_
        refine g_icmp_ne (t := 179) (q := 174) dX7_endFirm_171 (by decide) rfl (fun h171 => ?_) (fun h171 => (False.elim (by omega)))
        refine g_iload_n (i := 2) (q := 180) dX7_endFirm_179 rfl rfl rfl ?_
        refine g_fnV (as := [zI (i : Int), zI h]) (q := 183) (u' := 0) dX7_endFirm_180 rfl ck_X7_120 rfl rfl rfl (Nat.le_of_ble_eq_true rfl) (by decide) rfl (by decide) (t_changes (S := z_sA (z_sA S 42 i h) 47 i (-1)) (show 0 ≤ S.1 8 ∧ S.1 8 < 4000 by omega)) rfl ?_
        refine g_goto (q := 0) (t := 211) dX7_endFirm_183 (by decide) ?_
        refine g_iinc (q := 214) (i := 4) (n := 1) dX7_endFirm_211 rfl rfl (by constructor <;> omega) ?_
        refine g_goto (q := 0) (t := 75) dX7_endFirm_214 (by decide) ?_
        exact hnx _ _ _
    · have en : y_e1n S f i = 0 := by unfold y_e1n; rw [if_neg c1]
      rw [en, Int.add_zero] at hnx
      by_cases c2 : S.2.1 42 i = h ∧ S.2.1 40 ((i : Int) / 10) = f
      · have es : y_e1 S f h i = y_chg S i 6 := by unfold y_e1; rw [if_neg c1, if_pos c2]
        rw [es] at hnx
        refine g_iload (q := 77) dX7_endFirm_75 rfl rfl ?_
        refine g_sipush (q := 80) dX7_endFirm_77 rfl ⟨by decide, by decide⟩ (by decide) ?_
        refine g_icmp_ge (t := 217) (q := 83) dX7_endFirm_80 (by decide) rfl (fun h80 => (False.elim (by omega))) (fun h80 => ?_)
        refine g_aload_n (i := 0) (q := 84) dX7_endFirm_83 rfl rfl rfl ?_
        refine g_iload (q := 86) dX7_endFirm_84 rfl rfl ?_
        refine g_fnV (as := [zI (i : Int)]) (q := 89) (u' := 0) dX7_endFirm_86 rfl ck_X7_114 rfl rfl rfl (Nat.le_of_ble_eq_true rfl) (by decide) rfl (by decide) (t_holderOf (by omega)) rfl ?_
        refine g_istore (q := 91) dX7_endFirm_89 rfl (by decide) ?_
        refine g_aload_n (i := 0) (q := 92) dX7_endFirm_91 rfl rfl rfl ?_
        refine g_getr (q := 95) dX7_endFirm_92 rfl fk_X7_17 rfl rfl ?_
        refine g_iload (q := 97) dX7_endFirm_95 rfl rfl ?_
        refine g_ildv (q := 98) (z := S.2.1 42 (i : Int)) dX7_endFirm_97 rfl ⟨by decide, rfl, rfl⟩ (by omega) (by omega) rfl ?_
        refine g_iload (q := 100) dX7_endFirm_98 rfl rfl ?_
        refine g_icmp_ne (t := 107) (q := 103) dX7_endFirm_100 (by decide) rfl (fun h100 => ?_) (fun h100 => ?_)
        · refine g_iconst (q := 108) dX7_endFirm_107 rfl ⟨by decide, by decide⟩ ?_
          refine g_istore (q := 110) dX7_endFirm_108 rfl (by decide) ?_
          refine g_iload (q := 112) dX7_endFirm_110 rfl rfl ?_
          refine g_iload_n (i := 1) (q := 113) dX7_endFirm_112 rfl rfl rfl ?_
          refine g_icmp_ne (t := 120) (q := 116) dX7_endFirm_113 (by decide) rfl (fun h113 => (False.elim (by omega))) (fun h113 => ?_)
          refine g_iload_n (i := 2) (q := 117) dX7_endFirm_116 rfl rfl rfl ?_
          refine g_goto (q := 0) (t := 122) dX7_endFirm_117 (by decide) ?_
          refine g_istore (q := 124) dX7_endFirm_122 rfl (by decide) ?_
          refine g_aload_n (i := 0) (q := 125) dX7_endFirm_124 rfl rfl rfl ?_
          refine g_getr (q := 128) dX7_endFirm_125 rfl fk_X7_17 rfl rfl ?_
          refine g_iload (q := 130) dX7_endFirm_128 rfl rfl ?_
          refine g_ildv (q := 131) (z := S.2.1 42 (i : Int)) dX7_endFirm_130 rfl ⟨by decide, rfl, rfl⟩ (by omega) (by omega) rfl ?_
          refine g_iload_n (i := 1) (q := 132) dX7_endFirm_131 rfl rfl rfl ?_
          refine g_icmp_ne (t := 186) (q := 135) dX7_endFirm_132 (by decide) rfl (fun h132 => ?_) (fun h132 => (False.elim (by omega)))
          refine g_aload_n (i := 0) (q := 187) dX7_endFirm_186 rfl rfl rfl ?_
          refine g_getr (q := 190) dX7_endFirm_187 rfl fk_X7_17 rfl rfl ?_
          refine g_iload (q := 192) dX7_endFirm_190 rfl rfl ?_
          refine g_ildv (q := 193) (z := S.2.1 42 (i : Int)) dX7_endFirm_192 rfl ⟨by decide, rfl, rfl⟩ (by omega) (by omega) rfl ?_
          refine g_iload_n (i := 2) (q := 194) dX7_endFirm_193 rfl rfl rfl ?_
          refine g_icmp_ne (t := 211) (q := 197) dX7_endFirm_194 (by decide) rfl (fun h194 => (False.elim (by omega))) (fun h194 => ?_)
          refine g_iload (q := 199) dX7_endFirm_197 rfl rfl ?_
          refine g_iload_n (i := 1) (q := 200) dX7_endFirm_199 rfl rfl rfl ?_
          refine g_icmp_ne (t := 211) (q := 203) dX7_endFirm_200 (by decide) rfl (fun h200 => (False.elim (by omega))) (fun h200 => ?_)
          refine g_aload_n (i := 0) (q := 204) dX7_endFirm_203 rfl rfl rfl ?_
          refine g_iload (q := 206) dX7_endFirm_204 rfl rfl ?_
          refine g_bipush (q := 208) dX7_endFirm_206 rfl ⟨by decide, by decide⟩ (by decide) ?_
          refine g_fnV (as := [zI (i : Int), zI 6]) (q := 211) (u' := 0) dX7_endFirm_208 rfl ck_X7_120 rfl rfl rfl (Nat.le_of_ble_eq_true rfl) (by decide) rfl (by decide) (t_changes (S := S) (by omega)) rfl ?_
          refine g_iinc (q := 214) (i := 4) (n := 1) dX7_endFirm_211 rfl rfl (by constructor <;> omega) ?_
          refine g_goto (q := 0) (t := 75) dX7_endFirm_214 (by decide) ?_
          exact hnx _ _ _
        · refine g_iconst (q := 104) dX7_endFirm_103 rfl ⟨by decide, by decide⟩ ?_
          refine g_goto (q := 0) (t := 108) dX7_endFirm_104 (by decide) ?_
          refine g_istore (q := 110) dX7_endFirm_108 rfl (by decide) ?_
          refine g_iload (q := 112) dX7_endFirm_110 rfl rfl ?_
          refine g_iload_n (i := 1) (q := 113) dX7_endFirm_112 rfl rfl rfl ?_
          refine g_icmp_ne (t := 120) (q := 116) dX7_endFirm_113 (by decide) rfl (fun h113 => (False.elim (by omega))) (fun h113 => ?_)
          refine g_iload_n (i := 2) (q := 117) dX7_endFirm_116 rfl rfl rfl ?_
          refine g_goto (q := 0) (t := 122) dX7_endFirm_117 (by decide) ?_
          refine g_istore (q := 124) dX7_endFirm_122 rfl (by decide) ?_
          refine g_aload_n (i := 0) (q := 125) dX7_endFirm_124 rfl rfl rfl ?_
          refine g_getr (q := 128) dX7_endFirm_125 rfl fk_X7_17 rfl rfl ?_
          refine g_iload (q := 130) dX7_endFirm_128 rfl rfl ?_
          refine g_ildv (q := 131) (z := S.2.1 42 (i : Int)) dX7_endFirm_130 rfl ⟨by decide, rfl, rfl⟩ (by omega) (by omega) rfl ?_
          refine g_iload_n (i := 1) (q := 132) dX7_endFirm_131 rfl rfl rfl ?_
          refine g_icmp_ne (t := 186) (q := 135) dX7_endFirm_132 (by decide) rfl (fun h132 => ?_) (fun h132 => (False.elim (by omega)))
          refine g_aload_n (i := 0) (q := 187) dX7_endFirm_186 rfl rfl rfl ?_
          refine g_getr (q := 190) dX7_endFirm_187 rfl fk_X7_17 rfl rfl ?_
          refine g_iload (q := 192) dX7_endFirm_190 rfl rfl ?_
          refine g_ildv (q := 193) (z := S.2.1 42 (i : Int)) dX7_endFirm_192 rfl ⟨by decide, rfl, rfl⟩ (by omega) (by omega) rfl ?_
          refine g_iload_n (i := 2) (q := 194) dX7_endFirm_193 rfl rfl rfl ?_
          refine g_icmp_ne (t := 211) (q := 197) dX7_endFirm_194 (by decide) rfl (fun h194 => (False.elim (by omega))) (fun h194 => ?_)
          refine g_iload (q := 199) dX7_endFirm_197 rfl rfl ?_
          refine g_iload_n (i := 1) (q := 200) dX7_endFirm_199 rfl rfl rfl ?_
          refine g_icmp_ne (t := 211) (q := 203) dX7_endFirm_200 (by decide) rfl (fun h200 => (False.elim (by omega))) (fun h200 => ?_)
          refine g_aload_n (i := 0) (q := 204) dX7_endFirm_203 rfl rfl rfl ?_
          refine g_iload (q := 206) dX7_endFirm_204 rfl rfl ?_
          refine g_bipush (q := 208) dX7_endFirm_206 rfl ⟨by decide, by decide⟩ (by decide) ?_
          refine g_fnV (as := [zI (i : Int), zI 6]) (q := 211) (u' := 0) dX7_endFirm_208 rfl ck_X7_120 rfl rfl rfl (Nat.le_of_ble_eq_true rfl) (by decide) rfl (by decide) (t_changes (S := S) (by omega)) rfl ?_
          refine g_iinc (q := 214) (i := 4) (n := 1) dX7_endFirm_211 rfl rfl (by constructor <;> omega) ?_
          refine g_goto (q := 0) (t := 75) dX7_endFirm_214 (by decide) ?_
          exact hnx _ _ _
      · have es : y_e1 S f h i = S := by unfold y_e1; rw [if_neg c1, if_neg c2]
        rw [es] at hnx
        refine g_iload (q := 77) dX7_endFirm_75 rfl rfl ?_
        refine g_sipush (q := 80) dX7_endFirm_77 rfl ⟨by decide, by decide⟩ (by decide) ?_
        refine g_icmp_ge (t := 217) (q := 83) dX7_endFirm_80 (by decide) rfl (fun h80 => (False.elim (by omega))) (fun h80 => ?_)
        refine g_aload_n (i := 0) (q := 84) dX7_endFirm_83 rfl rfl rfl ?_
        refine g_iload (q := 86) dX7_endFirm_84 rfl rfl ?_
        refine g_fnV (as := [zI (i : Int)]) (q := 89) (u' := 0) dX7_endFirm_86 rfl ck_X7_114 rfl rfl rfl (Nat.le_of_ble_eq_true rfl) (by decide) rfl (by decide) (t_holderOf (by omega)) rfl ?_
        refine g_istore (q := 91) dX7_endFirm_89 rfl (by decide) ?_
        refine g_aload_n (i := 0) (q := 92) dX7_endFirm_91 rfl rfl rfl ?_
        refine g_getr (q := 95) dX7_endFirm_92 rfl fk_X7_17 rfl rfl ?_
        refine g_iload (q := 97) dX7_endFirm_95 rfl rfl ?_
        refine g_ildv (q := 98) (z := S.2.1 42 (i : Int)) dX7_endFirm_97 rfl ⟨by decide, rfl, rfl⟩ (by omega) (by omega) rfl ?_
        refine g_iload (q := 100) dX7_endFirm_98 rfl rfl ?_
        refine g_icmp_ne (t := 107) (q := 103) dX7_endFirm_100 (by decide) rfl (fun h100 => ?_) (fun h100 => ?_)
        · refine g_iconst (q := 108) dX7_endFirm_107 rfl ⟨by decide, by decide⟩ ?_
          refine g_istore (q := 110) dX7_endFirm_108 rfl (by decide) ?_
          refine g_iload (q := 112) dX7_endFirm_110 rfl rfl ?_
          refine g_iload_n (i := 1) (q := 113) dX7_endFirm_112 rfl rfl rfl ?_
          refine g_icmp_ne (t := 120) (q := 116) dX7_endFirm_113 (by decide) rfl (fun h113 => ?_) (fun h113 => ?_)
          · refine g_iload (q := 122) dX7_endFirm_120 rfl rfl ?_
            refine g_istore (q := 124) dX7_endFirm_122 rfl (by decide) ?_
            refine g_aload_n (i := 0) (q := 125) dX7_endFirm_124 rfl rfl rfl ?_
            refine g_getr (q := 128) dX7_endFirm_125 rfl fk_X7_17 rfl rfl ?_
            refine g_iload (q := 130) dX7_endFirm_128 rfl rfl ?_
            refine g_ildv (q := 131) (z := S.2.1 42 (i : Int)) dX7_endFirm_130 rfl ⟨by decide, rfl, rfl⟩ (by omega) (by omega) rfl ?_
            refine g_iload_n (i := 1) (q := 132) dX7_endFirm_131 rfl rfl rfl ?_
            refine g_icmp_ne (t := 186) (q := 135) dX7_endFirm_132 (by decide) rfl (fun h132 => ?_) (fun h132 => (False.elim (by omega)))
            refine g_aload_n (i := 0) (q := 187) dX7_endFirm_186 rfl rfl rfl ?_
            refine g_getr (q := 190) dX7_endFirm_187 rfl fk_X7_17 rfl rfl ?_
            refine g_iload (q := 192) dX7_endFirm_190 rfl rfl ?_
            refine g_ildv (q := 193) (z := S.2.1 42 (i : Int)) dX7_endFirm_192 rfl ⟨by decide, rfl, rfl⟩ (by omega) (by omega) rfl ?_
            refine g_iload_n (i := 2) (q := 194) dX7_endFirm_193 rfl rfl rfl ?_
            refine g_icmp_ne (t := 211) (q := 197) dX7_endFirm_194 (by decide) rfl (fun h194 => ?_) (fun h194 => ?_)
            · refine g_iinc (q := 214) (i := 4) (n := 1) dX7_endFirm_211 rfl rfl (by constructor <;> omega) ?_
              refine g_goto (q := 0) (t := 75) dX7_endFirm_214 (by decide) ?_
              exact hnx _ _ _
            · refine g_iload (q := 199) dX7_endFirm_197 rfl rfl ?_
              refine g_iload_n (i := 1) (q := 200) dX7_endFirm_199 rfl rfl rfl ?_
              refine g_icmp_ne (t := 211) (q := 203) dX7_endFirm_200 (by decide) rfl (fun h200 => ?_) (fun h200 => ?_)
              · refine g_iinc (q := 214) (i := 4) (n := 1) dX7_endFirm_211 rfl rfl (by constructor <;> omega) ?_
                refine g_goto (q := 0) (t := 75) dX7_endFirm_214 (by decide) ?_
                exact hnx _ _ _
              · exact absurd ⟨by omega, by omega⟩ c2
          · refine g_iload_n (i := 2) (q := 117) dX7_endFirm_116 rfl rfl rfl ?_
            refine g_goto (q := 0) (t := 122) dX7_endFirm_117 (by decide) ?_
            refine g_istore (q := 124) dX7_endFirm_122 rfl (by decide) ?_
            refine g_aload_n (i := 0) (q := 125) dX7_endFirm_124 rfl rfl rfl ?_
            refine g_getr (q := 128) dX7_endFirm_125 rfl fk_X7_17 rfl rfl ?_
            refine g_iload (q := 130) dX7_endFirm_128 rfl rfl ?_
            refine g_ildv (q := 131) (z := S.2.1 42 (i : Int)) dX7_endFirm_130 rfl ⟨by decide, rfl, rfl⟩ (by omega) (by omega) rfl ?_
            refine g_iload_n (i := 1) (q := 132) dX7_endFirm_131 rfl rfl rfl ?_
            refine g_icmp_ne (t := 186) (q := 135) dX7_endFirm_132 (by decide) rfl (fun h132 => ?_) (fun h132 => (False.elim (by omega)))
            refine g_aload_n (i := 0) (q := 187) dX7_endFirm_186 rfl rfl rfl ?_
            refine g_getr (q := 190) dX7_endFirm_187 rfl fk_X7_17 rfl rfl ?_
            refine g_iload (q := 192) dX7_endFirm_190 rfl rfl ?_
            refine g_ildv (q := 193) (z := S.2.1 42 (i : Int)) dX7_endFirm_192 rfl ⟨by decide, rfl, rfl⟩ (by omega) (by omega) rfl ?_
            refine g_iload_n (i := 2) (q := 194) dX7_endFirm_193 rfl rfl rfl ?_
            refine g_icmp_ne (t := 211) (q := 197) dX7_endFirm_194 (by decide) rfl (fun h194 => ?_) (fun h194 => ?_)
            · refine g_iinc (q := 214) (i := 4) (n := 1) dX7_endFirm_211 rfl rfl (by constructor <;> omega) ?_
              refine g_goto (q := 0) (t := 75) dX7_endFirm_214 (by decide) ?_
              exact hnx _ _ _
            · refine g_iload (q := 199) dX7_endFirm_197 rfl rfl ?_
              refine g_iload_n (i := 1) (q := 200) dX7_endFirm_199 rfl rfl rfl ?_
              refine g_icmp_ne (t := 211) (q := 203) dX7_endFirm_200 (by decide) rfl (fun h200 => ?_) (fun h200 => ?_)
              · refine g_iinc (q := 214) (i := 4) (n := 1) dX7_endFirm_211 rfl rfl (by constructor <;> omega) ?_
                refine g_goto (q := 0) (t := 75) dX7_endFirm_214 (by decide) ?_
                exact hnx _ _ _
              · exact absurd ⟨by omega, by omega⟩ c2
        · refine g_iconst (q := 104) dX7_endFirm_103 rfl ⟨by decide, by decide⟩ ?_
          refine g_goto (q := 0) (t := 108) dX7_endFirm_104 (by decide) ?_
          refine g_istore (q := 110) dX7_endFirm_108 rfl (by decide) ?_
          refine g_iload (q := 112) dX7_endFirm_110 rfl rfl ?_
          refine g_iload_n (i := 1) (q := 113) dX7_endFirm_112 rfl rfl rfl ?_
          refine g_icmp_ne (t := 120) (q := 116) dX7_endFirm_113 (by decide) rfl (fun h113 => ?_) (fun h113 => ?_)
          · refine g_iload (q := 122) dX7_endFirm_120 rfl rfl ?_
            refine g_istore (q := 124) dX7_endFirm_122 rfl (by decide) ?_
            refine g_aload_n (i := 0) (q := 125) dX7_endFirm_124 rfl rfl rfl ?_
            refine g_getr (q := 128) dX7_endFirm_125 rfl fk_X7_17 rfl rfl ?_
            refine g_iload (q := 130) dX7_endFirm_128 rfl rfl ?_
            refine g_ildv (q := 131) (z := S.2.1 42 (i : Int)) dX7_endFirm_130 rfl ⟨by decide, rfl, rfl⟩ (by omega) (by omega) rfl ?_
            refine g_iload_n (i := 1) (q := 132) dX7_endFirm_131 rfl rfl rfl ?_
            refine g_icmp_ne (t := 186) (q := 135) dX7_endFirm_132 (by decide) rfl (fun h132 => ?_) (fun h132 => (False.elim (by omega)))
            refine g_aload_n (i := 0) (q := 187) dX7_endFirm_186 rfl rfl rfl ?_
            refine g_getr (q := 190) dX7_endFirm_187 rfl fk_X7_17 rfl rfl ?_
            refine g_iload (q := 192) dX7_endFirm_190 rfl rfl ?_
            refine g_ildv (q := 193) (z := S.2.1 42 (i : Int)) dX7_endFirm_192 rfl ⟨by decide, rfl, rfl⟩ (by omega) (by omega) rfl ?_
            refine g_iload_n (i := 2) (q := 194) dX7_endFirm_193 rfl rfl rfl ?_
            refine g_icmp_ne (t := 211) (q := 197) dX7_endFirm_194 (by decide) rfl (fun h194 => ?_) (fun h194 => ?_)
            · refine g_iinc (q := 214) (i := 4) (n := 1) dX7_endFirm_211 rfl rfl (by constructor <;> omega) ?_
              refine g_goto (q := 0) (t := 75) dX7_endFirm_214 (by decide) ?_
              exact hnx _ _ _
            · refine g_iload (q := 199) dX7_endFirm_197 rfl rfl ?_
              refine g_iload_n (i := 1) (q := 200) dX7_endFirm_199 rfl rfl rfl ?_
              refine g_icmp_ne (t := 211) (q := 203) dX7_endFirm_200 (by decide) rfl (fun h200 => ?_) (fun h200 => ?_)
              · refine g_iinc (q := 214) (i := 4) (n := 1) dX7_endFirm_211 rfl rfl (by constructor <;> omega) ?_
                refine g_goto (q := 0) (t := 75) dX7_endFirm_214 (by decide) ?_
                exact hnx _ _ _
              · exact absurd ⟨by omega, by omega⟩ c2
          · refine g_iload_n (i := 2) (q := 117) dX7_endFirm_116 rfl rfl rfl ?_
            refine g_goto (q := 0) (t := 122) dX7_endFirm_117 (by decide) ?_
            refine g_istore (q := 124) dX7_endFirm_122 rfl (by decide) ?_
            refine g_aload_n (i := 0) (q := 125) dX7_endFirm_124 rfl rfl rfl ?_
            refine g_getr (q := 128) dX7_endFirm_125 rfl fk_X7_17 rfl rfl ?_
            refine g_iload (q := 130) dX7_endFirm_128 rfl rfl ?_
            refine g_ildv (q := 131) (z := S.2.1 42 (i : Int)) dX7_endFirm_130 rfl ⟨by decide, rfl, rfl⟩ (by omega) (by omega) rfl ?_
            refine g_iload_n (i := 1) (q := 132) dX7_endFirm_131 rfl rfl rfl ?_
            refine g_icmp_ne (t := 186) (q := 135) dX7_endFirm_132 (by decide) rfl (fun h132 => ?_) (fun h132 => (False.elim (by omega)))
            refine g_aload_n (i := 0) (q := 187) dX7_endFirm_186 rfl rfl rfl ?_
            refine g_getr (q := 190) dX7_endFirm_187 rfl fk_X7_17 rfl rfl ?_
            refine g_iload (q := 192) dX7_endFirm_190 rfl rfl ?_
            refine g_ildv (q := 193) (z := S.2.1 42 (i : Int)) dX7_endFirm_192 rfl ⟨by decide, rfl, rfl⟩ (by omega) (by omega) rfl ?_
            refine g_iload_n (i := 2) (q := 194) dX7_endFirm_193 rfl rfl rfl ?_
            refine g_icmp_ne (t := 211) (q := 197) dX7_endFirm_194 (by decide) rfl (fun h194 => ?_) (fun h194 => ?_)
            · refine g_iinc (q := 214) (i := 4) (n := 1) dX7_endFirm_211 rfl rfl (by constructor <;> omega) ?_
              refine g_goto (q := 0) (t := 75) dX7_endFirm_214 (by decide) ?_
              exact hnx _ _ _
            · refine g_iload (q := 199) dX7_endFirm_197 rfl rfl ?_
              refine g_iload_n (i := 1) (q := 200) dX7_endFirm_199 rfl rfl rfl ?_
              refine g_icmp_ne (t := 211) (q := 203) dX7_endFirm_200 (by decide) rfl (fun h200 => ?_) (fun h200 => ?_)
              · refine g_iinc (q := 214) (i := 4) (n := 1) dX7_endFirm_211 rfl rfl (by constructor <;> omega) ?_
                refine g_goto (q := 0) (t := 75) dX7_endFirm_214 (by decide) ?_
                exact hnx _ _ _
              · exact absurd ⟨by omega, by omega⟩ c2
def y_bl1 (f h : Int) (S : zS) (i : Nat) : zS := z_sA S 40 i (if S.2.1 40 i = f then h else S.2.1 40 i)
def y_cl1 (f : Int) (S : zS) (i : Nat) : zS := z_sA S 48 i (if S.2.1 48 i = 1 ∧ S.2.1 51 i = f then 3 else S.2.1 48 i)
theorem l_X7_endFirm2 {Q : zQ} {f h d : Int} (hf : 0 ≤ f ∧ f < 6) {v5 v6 v7 : Option zV} : ∀ (k i : Nat) (S : zS), i + k = 20 → z_G mX7_endFirm (z_F mX7_endFirm Q) 0 262 [some (zR 7), some (zI f), some (zI h), some (zI d), some (zI 20), v5, v6, v7] [] (x_fold (y_bl1 f h) i k S) →
    z_G mX7_endFirm (z_F mX7_endFirm Q) 0 220 [some (zR 7), some (zI f), some (zI h), some (zI d), some (zI (i : Int)), v5, v6, v7] [] S := by
  intro k
  induction k with
  | zero =>
    intro i S hi hk
    rw [x_fold] at hk
    have e : i = 20 := by omega
    subst e
    refine g_iload (q := 222) dX7_endFirm_220 rfl rfl ?_
    refine g_bipush (q := 224) dX7_endFirm_222 rfl ⟨by decide, by decide⟩ (by decide) ?_
    refine g_icmp_ge (t := 262) (q := 227) dX7_endFirm_224 (by decide) rfl (fun h224 => ?_) (fun h224 => (False.elim (by omega)))
    exact hk
  | succ k ih =>
    intro i S hi hk
    rw [x_fold_s] at hk
    have hnx := ih (i + 1) _ (by omega) hk
    unfold y_bl1 at hnx
    clear ih hk
    by_cases c1 : S.2.1 40 i = f
    · rw [if_pos c1] at hnx
      refine g_iload (q := 222) dX7_endFirm_220 rfl rfl ?_
      refine g_bipush (q := 224) dX7_endFirm_222 rfl ⟨by decide, by decide⟩ (by decide) ?_
      refine g_icmp_ge (t := 262) (q := 227) dX7_endFirm_224 (by decide) rfl (fun h224 => (False.elim (by omega))) (fun h224 => ?_)
      refine g_aload_n (i := 0) (q := 228) dX7_endFirm_227 rfl rfl rfl ?_
      refine g_getr (q := 231) dX7_endFirm_228 rfl fk_X7_7 rfl rfl ?_
      refine g_iload (q := 233) dX7_endFirm_231 rfl rfl ?_
      refine g_aload_n (i := 0) (q := 234) dX7_endFirm_233 rfl rfl rfl ?_
      refine g_getr (q := 237) dX7_endFirm_234 rfl fk_X7_7 rfl rfl ?_
      refine g_iload (q := 239) dX7_endFirm_237 rfl rfl ?_
      refine g_ildv (q := 240) (z := S.2.1 40 (i : Int)) dX7_endFirm_239 rfl ⟨by decide, rfl, rfl⟩ (by omega) (by omega) rfl ?_
      refine g_iload_n (i := 1) (q := 241) dX7_endFirm_240 rfl rfl rfl ?_
      refine g_icmp_ne (t := 248) (q := 244) dX7_endFirm_241 (by decide) rfl (fun h241 => (False.elim (by omega))) (fun h241 => ?_)
      refine g_iload_n (i := 2) (q := 245) dX7_endFirm_244 rfl rfl rfl ?_
      refine g_goto (q := 0) (t := 255) dX7_endFirm_245 (by decide) ?_
      refine g_iast (q := 256) dX7_endFirm_255 rfl ⟨by decide, rfl, rfl⟩ (by omega) (by omega) ?_
      refine g_iinc (q := 259) (i := 4) (n := 1) dX7_endFirm_256 rfl rfl (by constructor <;> omega) ?_
      refine g_goto (q := 0) (t := 220) dX7_endFirm_259 (by decide) ?_
      exact hnx
    · rw [if_neg c1] at hnx
      refine g_iload (q := 222) dX7_endFirm_220 rfl rfl ?_
      refine g_bipush (q := 224) dX7_endFirm_222 rfl ⟨by decide, by decide⟩ (by decide) ?_
      refine g_icmp_ge (t := 262) (q := 227) dX7_endFirm_224 (by decide) rfl (fun h224 => (False.elim (by omega))) (fun h224 => ?_)
      refine g_aload_n (i := 0) (q := 228) dX7_endFirm_227 rfl rfl rfl ?_
      refine g_getr (q := 231) dX7_endFirm_228 rfl fk_X7_7 rfl rfl ?_
      refine g_iload (q := 233) dX7_endFirm_231 rfl rfl ?_
      refine g_aload_n (i := 0) (q := 234) dX7_endFirm_233 rfl rfl rfl ?_
      refine g_getr (q := 237) dX7_endFirm_234 rfl fk_X7_7 rfl rfl ?_
      refine g_iload (q := 239) dX7_endFirm_237 rfl rfl ?_
      refine g_ildv (q := 240) (z := S.2.1 40 (i : Int)) dX7_endFirm_239 rfl ⟨by decide, rfl, rfl⟩ (by omega) (by omega) rfl ?_
      refine g_iload_n (i := 1) (q := 241) dX7_endFirm_240 rfl rfl rfl ?_
      refine g_icmp_ne (t := 248) (q := 244) dX7_endFirm_241 (by decide) rfl (fun h241 => ?_) (fun h241 => (False.elim (by omega)))
      refine g_aload_n (i := 0) (q := 249) dX7_endFirm_248 rfl rfl rfl ?_
      refine g_getr (q := 252) dX7_endFirm_249 rfl fk_X7_7 rfl rfl ?_
      refine g_iload (q := 254) dX7_endFirm_252 rfl rfl ?_
      refine g_ildv (q := 255) (z := S.2.1 40 (i : Int)) dX7_endFirm_254 rfl ⟨by decide, rfl, rfl⟩ (by omega) (by omega) rfl ?_
      refine g_iast (q := 256) dX7_endFirm_255 rfl ⟨by decide, rfl, rfl⟩ (by omega) (by omega) ?_
      refine g_iinc (q := 259) (i := 4) (n := 1) dX7_endFirm_256 rfl rfl (by constructor <;> omega) ?_
      refine g_goto (q := 0) (t := 220) dX7_endFirm_259 (by decide) ?_
      exact hnx
theorem l_X7_endFirm3 {Q : zQ} {f h d : Int} {c : Nat} (h60 : c ≤ 60) {v5 v6 v7 : Option zV} : ∀ (k i : Nat) (S : zS), i + k = c → S.1 7 = c → Q (.ok (some (zI d))) (x_fold (y_cl1 f) i k S) →
    z_G mX7_endFirm (z_F mX7_endFirm Q) 0 265 [some (zR 7), some (zI f), some (zI h), some (zI d), some (zI (i : Int)), v5, v6, v7] [] S := by
  intro k
  induction k with
  | zero =>
    intro i S hi hc hQ
    rw [x_fold] at hQ
    refine g_iload (q := 267) dX7_endFirm_265 rfl rfl ?_
    refine g_aload_n (i := 0) (q := 268) dX7_endFirm_267 rfl rfl rfl ?_
    refine g_getv (q := 271) (z := S.1 7) dX7_endFirm_268 rfl fk_X7_88 rfl rfl rfl ?_
    refine g_icmp_ge (t := 320) (q := 274) dX7_endFirm_271 (by decide) rfl (fun h271 => ?_) (fun h271 => (False.elim (by omega)))
    refine g_iload_n (i := 3) (q := 321) dX7_endFirm_320 rfl rfl rfl ?_
    exact g_ret dX7_endFirm_321 rfl (by decide) hQ
  | succ k ih =>
    intro i S hi hc hQ
    rw [x_fold_s] at hQ
    have hnx := ih (i + 1) (y_cl1 f S i) (by omega) hc hQ
    unfold y_cl1 at hnx
    clear ih hQ
    by_cases c1 : S.2.1 48 i = 1 ∧ S.2.1 51 i = f
    · rw [if_pos c1] at hnx
      refine g_iload (q := 267) dX7_endFirm_265 rfl rfl ?_
      refine g_aload_n (i := 0) (q := 268) dX7_endFirm_267 rfl rfl rfl ?_
      refine g_getv (q := 271) (z := S.1 7) dX7_endFirm_268 rfl fk_X7_88 rfl rfl rfl ?_
      refine g_icmp_ge (t := 320) (q := 274) dX7_endFirm_271 (by decide) rfl (fun h271 => (False.elim (by omega))) (fun h271 => ?_)
      refine g_aload_n (i := 0) (q := 275) dX7_endFirm_274 rfl rfl rfl ?_
      refine g_getr (q := 278) dX7_endFirm_275 rfl fk_X7_35 rfl rfl ?_
      refine g_iload (q := 280) dX7_endFirm_278 rfl rfl ?_
      refine g_aload_n (i := 0) (q := 281) dX7_endFirm_280 rfl rfl rfl ?_
      refine g_getr (q := 284) dX7_endFirm_281 rfl fk_X7_35 rfl rfl ?_
      refine g_iload (q := 286) dX7_endFirm_284 rfl rfl ?_
      refine g_ildv (q := 287) (z := S.2.1 48 (i : Int)) dX7_endFirm_286 rfl ⟨by decide, rfl, rfl⟩ (by omega) (by omega) rfl ?_
      refine g_iconst (q := 288) dX7_endFirm_287 rfl ⟨by decide, by decide⟩ ?_
      refine g_icmp_ne (t := 306) (q := 291) dX7_endFirm_288 (by decide) rfl (fun h288 => (False.elim (by omega))) (fun h288 => ?_)
      refine g_aload_n (i := 0) (q := 292) dX7_endFirm_291 rfl rfl rfl ?_
      refine g_getr (q := 295) dX7_endFirm_292 rfl fk_X7_44 rfl rfl ?_
      refine g_iload (q := 297) dX7_endFirm_295 rfl rfl ?_
      refine g_ildv (q := 298) (z := S.2.1 51 (i : Int)) dX7_endFirm_297 rfl ⟨by decide, rfl, rfl⟩ (by omega) (by omega) rfl ?_
      refine g_iload_n (i := 1) (q := 299) dX7_endFirm_298 rfl rfl rfl ?_
      refine g_icmp_ne (t := 306) (q := 302) dX7_endFirm_299 (by decide) rfl (fun h299 => (False.elim (by omega))) (fun h299 => ?_)
      refine g_iconst (q := 303) dX7_endFirm_302 rfl ⟨by decide, by decide⟩ ?_
      refine g_goto (q := 0) (t := 313) dX7_endFirm_303 (by decide) ?_
      refine g_iast (q := 314) dX7_endFirm_313 rfl ⟨by decide, rfl, rfl⟩ (by omega) (by omega) ?_
      refine g_iinc (q := 317) (i := 4) (n := 1) dX7_endFirm_314 rfl rfl (by constructor <;> omega) ?_
      refine g_goto (q := 0) (t := 265) dX7_endFirm_317 (by decide) ?_
      exact hnx
    · rw [if_neg c1] at hnx
      refine g_iload (q := 267) dX7_endFirm_265 rfl rfl ?_
      refine g_aload_n (i := 0) (q := 268) dX7_endFirm_267 rfl rfl rfl ?_
      refine g_getv (q := 271) (z := S.1 7) dX7_endFirm_268 rfl fk_X7_88 rfl rfl rfl ?_
      refine g_icmp_ge (t := 320) (q := 274) dX7_endFirm_271 (by decide) rfl (fun h271 => (False.elim (by omega))) (fun h271 => ?_)
      refine g_aload_n (i := 0) (q := 275) dX7_endFirm_274 rfl rfl rfl ?_
      refine g_getr (q := 278) dX7_endFirm_275 rfl fk_X7_35 rfl rfl ?_
      refine g_iload (q := 280) dX7_endFirm_278 rfl rfl ?_
      refine g_aload_n (i := 0) (q := 281) dX7_endFirm_280 rfl rfl rfl ?_
      refine g_getr (q := 284) dX7_endFirm_281 rfl fk_X7_35 rfl rfl ?_
      refine g_iload (q := 286) dX7_endFirm_284 rfl rfl ?_
      refine g_ildv (q := 287) (z := S.2.1 48 (i : Int)) dX7_endFirm_286 rfl ⟨by decide, rfl, rfl⟩ (by omega) (by omega) rfl ?_
      refine g_iconst (q := 288) dX7_endFirm_287 rfl ⟨by decide, by decide⟩ ?_
      refine g_icmp_ne (t := 306) (q := 291) dX7_endFirm_288 (by decide) rfl (fun h288 => ?_) (fun h288 => ?_)
      · refine g_aload_n (i := 0) (q := 307) dX7_endFirm_306 rfl rfl rfl ?_
        refine g_getr (q := 310) dX7_endFirm_307 rfl fk_X7_35 rfl rfl ?_
        refine g_iload (q := 312) dX7_endFirm_310 rfl rfl ?_
        refine g_ildv (q := 313) (z := S.2.1 48 (i : Int)) dX7_endFirm_312 rfl ⟨by decide, rfl, rfl⟩ (by omega) (by omega) rfl ?_
        refine g_iast (q := 314) dX7_endFirm_313 rfl ⟨by decide, rfl, rfl⟩ (by omega) (by omega) ?_
        refine g_iinc (q := 317) (i := 4) (n := 1) dX7_endFirm_314 rfl rfl (by constructor <;> omega) ?_
        refine g_goto (q := 0) (t := 265) dX7_endFirm_317 (by decide) ?_
        exact hnx
      · refine g_aload_n (i := 0) (q := 292) dX7_endFirm_291 rfl rfl rfl ?_
        refine g_getr (q := 295) dX7_endFirm_292 rfl fk_X7_44 rfl rfl ?_
        refine g_iload (q := 297) dX7_endFirm_295 rfl rfl ?_
        refine g_ildv (q := 298) (z := S.2.1 51 (i : Int)) dX7_endFirm_297 rfl ⟨by decide, rfl, rfl⟩ (by omega) (by omega) rfl ?_
        refine g_iload_n (i := 1) (q := 299) dX7_endFirm_298 rfl rfl rfl ?_
        refine g_icmp_ne (t := 306) (q := 302) dX7_endFirm_299 (by decide) rfl (fun h299 => ?_) (fun h299 => ?_)
        · refine g_aload_n (i := 0) (q := 307) dX7_endFirm_306 rfl rfl rfl ?_
          refine g_getr (q := 310) dX7_endFirm_307 rfl fk_X7_35 rfl rfl ?_
          refine g_iload (q := 312) dX7_endFirm_310 rfl rfl ?_
          refine g_ildv (q := 313) (z := S.2.1 48 (i : Int)) dX7_endFirm_312 rfl ⟨by decide, rfl, rfl⟩ (by omega) (by omega) rfl ?_
          refine g_iast (q := 314) dX7_endFirm_313 rfl ⟨by decide, rfl, rfl⟩ (by omega) (by omega) ?_
          refine g_iinc (q := 317) (i := 4) (n := 1) dX7_endFirm_314 rfl rfl (by constructor <;> omega) ?_
          refine g_goto (q := 0) (t := 265) dX7_endFirm_317 (by decide) ?_
          exact hnx
        · exact absurd ⟨by omega, by omega⟩ c1
def y_ef (S : zS) (c : Nat) (f h : Int) : zS := x_fold (y_cl1 f) 0 c (x_fold (y_bl1 f h) 0 20 (y_el (z_sA S 41 f 1) f h 0 200))
def p_endFirm (S : zS) (c : Nat) (f h : Int) : Int × zS := if ¬ ((0 ≤ f ∧ f < 6) ∧ (0 ≤ h ∧ h < 6)) then (0, z_sS S 5 1) else if f = h then (0, z_sS S 5 2) else if ¬ S.2.1 41 f = 0 ∨ ¬ S.2.1 41 h = 0 then (0, z_sS S 5 3) else (y_en2 (z_sA (z_sS S 5 0) 41 f 1) f h 0 200, y_ef (z_sS S 5 0) c f h)
theorem x_fold_S {g : zS → Nat → zS} (hg : ∀ T i, (g T i).1 = T.1) : ∀ (k i : Nat) (S : zS), (x_fold g i k S).1 = S.1
  | 0, _, _ => rfl
  | k + 1, i, S => by rw [x_fold_s, x_fold_S hg k (i + 1), hg]
theorem t_endFirm {S : zS} {f h : Int} {c : Nat} (hc : S.1 7 = c) (h60 : c ≤ 60) (h8 : 0 ≤ S.1 8 ∧ S.1 8 ≤ 3800) (hG : ∀ f : Int, 0 ≤ f → f < 6 → S.2.1 41 f = 0 ∨ S.2.1 41 f = 1) : z_Ret mX7_endFirm [zR 7, zI f, zI h] S (p_endFirm S c f h) := by
  obtain ⟨g1, -, -, -⟩ := y_el_fr (f := f) (h := h) 200 0 (z_sA (z_sS S 5 0) 41 f 1)
  have r2 := y_en2_rng (f := f) (h := h) 200 0 (z_sA (z_sS S 5 0) 41 f 1)
  refine z_enter (by decide +kernel) rfl (z_n1 trivial (z_n1 trivial (z_n1 trivial z_n0))) (Nat.le_of_ble_eq_true rfl) ?_
  by_cases hf : 0 ≤ f ∧ f < 6
  · by_cases hh : 0 ≤ h ∧ h < 6
    · have hgf := hG f hf.1 hf.2
      have hgh := hG h hh.1 hh.2
      refine g_aload_n (i := 0) (q := 1) dX7_endFirm_0 rfl rfl rfl ?_
      refine g_iload_n (i := 1) (q := 2) dX7_endFirm_1 rfl rfl rfl ?_
      refine g_fnS (as := [zI f]) (q := 5) (u' := 0) dX7_endFirm_2 rfl ck_X7_98 rfl rfl (Nat.le_of_ble_eq_true rfl) (by decide) rfl (by decide) (t_isFirm_t hf) rfl ?_
      refine g_if_eq (t := 15) (q := 8) dX7_endFirm_5 (by decide) rfl (fun h5 => (False.elim (by omega))) (fun h5 => ?_)
      refine g_iload_n (i := 2) (q := 9) dX7_endFirm_8 rfl rfl rfl ?_
      refine g_fnS (as := [zI h]) (q := 12) (u' := 0) dX7_endFirm_9 rfl ck_X7_98 rfl rfl (Nat.le_of_ble_eq_true rfl) (by decide) rfl (by decide) (t_isFirm_t hh) rfl ?_
      refine g_if_ne (t := 19) (q := 15) dX7_endFirm_12 (by decide) rfl (fun h12 => ?_) (fun h12 => (False.elim (by omega)))
      refine g_iload_n (i := 1) (q := 20) dX7_endFirm_19 rfl rfl rfl ?_
      refine g_iload_n (i := 2) (q := 21) dX7_endFirm_20 rfl rfl rfl ?_
      refine g_icmp_ne (t := 28) (q := 24) dX7_endFirm_21 (by decide) rfl (fun h21 => ?_) (fun h21 => ?_)
      · refine g_aload_n (i := 0) (q := 29) dX7_endFirm_28 rfl rfl rfl ?_
        refine g_getr (q := 32) dX7_endFirm_29 rfl fk_X7_13 rfl rfl ?_
        refine g_iload_n (i := 1) (q := 33) dX7_endFirm_32 rfl rfl rfl ?_
        refine g_zldv (q := 34) (z := S.2.1 41 f) dX7_endFirm_33 rfl ⟨by decide, rfl, rfl⟩ (by omega) (by omega) rfl ?_
        refine g_if_ne (t := 46) (q := 37) dX7_endFirm_34 (by decide) rfl (fun h34 => ?_) (fun h34 => ?_)
        · refine g_iconst (q := 47) dX7_endFirm_46 rfl ⟨by decide, by decide⟩ ?_
          refine g_goto (q := 0) (t := 51) dX7_endFirm_47 (by decide) ?_
          refine g_put (q := 54) dX7_endFirm_51 rfl fk_X7_80 fp_7_0 rfl rfl ?_
          refine g_aload_n (i := 0) (q := 55) dX7_endFirm_54 rfl rfl rfl ?_
          refine g_getv (q := 58) (z := 3) dX7_endFirm_55 rfl fk_X7_80 rfl rfl rfl ?_
          refine g_if_le (t := 63) (q := 61) dX7_endFirm_58 (by decide) rfl (fun h58 => (False.elim (by omega))) (fun h58 => ?_)
          refine g_iconst (q := 62) dX7_endFirm_61 rfl ⟨by decide, by decide⟩ ?_
          exact g_ret dX7_endFirm_62 rfl (by decide) (by unfold p_endFirm; (repeat (first | rw [if_pos (by omega)] | rw [if_neg (by omega)])); exact ⟨rfl, rfl⟩)
        · refine g_aload_n (i := 0) (q := 38) dX7_endFirm_37 rfl rfl rfl ?_
          refine g_getr (q := 41) dX7_endFirm_38 rfl fk_X7_13 rfl rfl ?_
          refine g_iload_n (i := 2) (q := 42) dX7_endFirm_41 rfl rfl rfl ?_
          refine g_zldv (q := 43) (z := S.2.1 41 h) dX7_endFirm_42 rfl ⟨by decide, rfl, rfl⟩ (by omega) (by omega) rfl ?_
          refine g_if_eq (t := 50) (q := 46) dX7_endFirm_43 (by decide) rfl (fun h43 => ?_) (fun h43 => ?_)
          · refine g_iconst (q := 51) dX7_endFirm_50 rfl ⟨by decide, by decide⟩ ?_
            refine g_put (q := 54) dX7_endFirm_51 rfl fk_X7_80 fp_7_0 rfl rfl ?_
            refine g_aload_n (i := 0) (q := 55) dX7_endFirm_54 rfl rfl rfl ?_
            refine g_getv (q := 58) (z := 0) dX7_endFirm_55 rfl fk_X7_80 rfl rfl rfl ?_
            refine g_if_le (t := 63) (q := 61) dX7_endFirm_58 (by decide) rfl (fun h58 => ?_) (fun h58 => (False.elim (by omega)))
            refine g_aload_n (i := 0) (q := 64) dX7_endFirm_63 rfl rfl rfl ?_
            refine g_getr (q := 67) dX7_endFirm_64 rfl fk_X7_13 rfl rfl ?_
            refine g_iload_n (i := 1) (q := 68) dX7_endFirm_67 rfl rfl rfl ?_
            refine g_iconst (q := 69) dX7_endFirm_68 rfl ⟨by decide, by decide⟩ ?_
            refine g_zast (q := 70) dX7_endFirm_69 rfl ⟨by decide, rfl, rfl⟩ (by omega) (by omega) (by omega) ?_
            refine g_iconst (q := 71) dX7_endFirm_70 rfl ⟨by decide, by decide⟩ ?_
            refine g_istore_n (i := 3) (q := 72) dX7_endFirm_71 rfl rfl (by decide) ?_
            refine g_iconst (q := 73) dX7_endFirm_72 rfl ⟨by decide, by decide⟩ ?_
            refine g_istore (q := 75) dX7_endFirm_73 rfl (by decide) ?_
            refine l_X7_endFirm1 hf hh 200 0 (z_sA (z_sS S 5 0) 41 f 1) 0 (by omega) h8.1 (show S.1 8 + 200 ≤ 4000 by omega) (by omega) ?_ _ _ _
            intro v5 v6 v7
            refine g_iconst (q := 218) dX7_endFirm_217 rfl ⟨by decide, by decide⟩ ?_
            refine g_istore (q := 220) dX7_endFirm_218 rfl (by decide) ?_
            refine l_X7_endFirm2 hf 20 0 _ (by omega) ?_
            refine g_iconst (q := 263) dX7_endFirm_262 rfl ⟨by decide, by decide⟩ ?_
            refine g_istore (q := 265) dX7_endFirm_263 rfl (by decide) ?_
            refine l_X7_endFirm3 h60 c 0 _ (by omega) (by rw [x_fold_S (g := y_bl1 f h) (fun T i => rfl), g1 7 (by omega)]; exact hc) ?_
            unfold p_endFirm
            (repeat (first | rw [if_pos (by omega)] | rw [if_neg (by omega)]))
            rw [Int.zero_add]
            exact ⟨rfl, rfl⟩
          · refine g_iconst (q := 47) dX7_endFirm_46 rfl ⟨by decide, by decide⟩ ?_
            refine g_goto (q := 0) (t := 51) dX7_endFirm_47 (by decide) ?_
            refine g_put (q := 54) dX7_endFirm_51 rfl fk_X7_80 fp_7_0 rfl rfl ?_
            refine g_aload_n (i := 0) (q := 55) dX7_endFirm_54 rfl rfl rfl ?_
            refine g_getv (q := 58) (z := 3) dX7_endFirm_55 rfl fk_X7_80 rfl rfl rfl ?_
            refine g_if_le (t := 63) (q := 61) dX7_endFirm_58 (by decide) rfl (fun h58 => (False.elim (by omega))) (fun h58 => ?_)
            refine g_iconst (q := 62) dX7_endFirm_61 rfl ⟨by decide, by decide⟩ ?_
            exact g_ret dX7_endFirm_62 rfl (by decide) (by unfold p_endFirm; (repeat (first | rw [if_pos (by omega)] | rw [if_neg (by omega)])); exact ⟨rfl, rfl⟩)
      · refine g_iconst (q := 25) dX7_endFirm_24 rfl ⟨by decide, by decide⟩ ?_
        refine g_goto (q := 0) (t := 51) dX7_endFirm_25 (by decide) ?_
        refine g_put (q := 54) dX7_endFirm_51 rfl fk_X7_80 fp_7_0 rfl rfl ?_
        refine g_aload_n (i := 0) (q := 55) dX7_endFirm_54 rfl rfl rfl ?_
        refine g_getv (q := 58) (z := 2) dX7_endFirm_55 rfl fk_X7_80 rfl rfl rfl ?_
        refine g_if_le (t := 63) (q := 61) dX7_endFirm_58 (by decide) rfl (fun h58 => (False.elim (by omega))) (fun h58 => ?_)
        refine g_iconst (q := 62) dX7_endFirm_61 rfl ⟨by decide, by decide⟩ ?_
        exact g_ret dX7_endFirm_62 rfl (by decide) (by unfold p_endFirm; (repeat (first | rw [if_pos (by omega)] | rw [if_neg (by omega)])); exact ⟨rfl, rfl⟩)
    · skip
      refine g_aload_n (i := 0) (q := 1) dX7_endFirm_0 rfl rfl rfl ?_
      refine g_iload_n (i := 1) (q := 2) dX7_endFirm_1 rfl rfl rfl ?_
      refine g_fnS (as := [zI f]) (q := 5) (u' := 0) dX7_endFirm_2 rfl ck_X7_98 rfl rfl (Nat.le_of_ble_eq_true rfl) (by decide) rfl (by decide) (t_isFirm_t hf) rfl ?_
      refine g_if_eq (t := 15) (q := 8) dX7_endFirm_5 (by decide) rfl (fun h5 => (False.elim (by omega))) (fun h5 => ?_)
      refine g_iload_n (i := 2) (q := 9) dX7_endFirm_8 rfl rfl rfl ?_
      refine g_fnS (as := [zI h]) (q := 12) (u' := 0) dX7_endFirm_9 rfl ck_X7_98 rfl rfl (Nat.le_of_ble_eq_true rfl) (by decide) rfl (by decide) (t_isFirm_f hh) rfl ?_
      refine g_if_ne (t := 19) (q := 15) dX7_endFirm_12 (by decide) rfl (fun h12 => (False.elim (by omega))) (fun h12 => ?_)
      refine g_iconst (q := 16) dX7_endFirm_15 rfl ⟨by decide, by decide⟩ ?_
      refine g_goto (q := 0) (t := 51) dX7_endFirm_16 (by decide) ?_
      refine g_put (q := 54) dX7_endFirm_51 rfl fk_X7_80 fp_7_0 rfl rfl ?_
      refine g_aload_n (i := 0) (q := 55) dX7_endFirm_54 rfl rfl rfl ?_
      refine g_getv (q := 58) (z := 1) dX7_endFirm_55 rfl fk_X7_80 rfl rfl rfl ?_
      refine g_if_le (t := 63) (q := 61) dX7_endFirm_58 (by decide) rfl (fun h58 => (False.elim (by omega))) (fun h58 => ?_)
      refine g_iconst (q := 62) dX7_endFirm_61 rfl ⟨by decide, by decide⟩ ?_
      exact g_ret dX7_endFirm_62 rfl (by decide) (by unfold p_endFirm; (repeat (first | rw [if_pos (by omega)] | rw [if_neg (by omega)])); exact ⟨rfl, rfl⟩)
  · skip
    refine g_aload_n (i := 0) (q := 1) dX7_endFirm_0 rfl rfl rfl ?_
    refine g_iload_n (i := 1) (q := 2) dX7_endFirm_1 rfl rfl rfl ?_
    refine g_fnS (as := [zI f]) (q := 5) (u' := 0) dX7_endFirm_2 rfl ck_X7_98 rfl rfl (Nat.le_of_ble_eq_true rfl) (by decide) rfl (by decide) (t_isFirm_f hf) rfl ?_
    refine g_if_eq (t := 15) (q := 8) dX7_endFirm_5 (by decide) rfl (fun h5 => ?_) (fun h5 => (False.elim (by omega)))
    refine g_iconst (q := 16) dX7_endFirm_15 rfl ⟨by decide, by decide⟩ ?_
    refine g_goto (q := 0) (t := 51) dX7_endFirm_16 (by decide) ?_
    refine g_put (q := 54) dX7_endFirm_51 rfl fk_X7_80 fp_7_0 rfl rfl ?_
    refine g_aload_n (i := 0) (q := 55) dX7_endFirm_54 rfl rfl rfl ?_
    refine g_getv (q := 58) (z := 1) dX7_endFirm_55 rfl fk_X7_80 rfl rfl rfl ?_
    refine g_if_le (t := 63) (q := 61) dX7_endFirm_58 (by decide) rfl (fun h58 => (False.elim (by omega))) (fun h58 => ?_)
    refine g_iconst (q := 62) dX7_endFirm_61 rfl ⟨by decide, by decide⟩ ?_
    exact g_ret dX7_endFirm_62 rfl (by decide) (by unfold p_endFirm; (repeat (first | rw [if_pos (by omega)] | rw [if_neg (by omega)])); exact ⟨rfl, rfl⟩)
