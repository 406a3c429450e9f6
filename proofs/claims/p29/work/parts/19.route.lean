/-! ===== calls along the tables ===== -/
def x_rd (S : zS) (w h : Int) (i : Nat) : Int := if w = 2 ∧ i = 2 ∧ S.2.1 39 ((i : Int) - 1) = h then S.2.1 39 0 else S.2.1 39 ((i : Int) - 1)
def x_nx (S : zS) (n w h : Int) (i : Nat) : Int := if ¬ w = 0 ∧ i = 1 ∧ ¬ S.2.1 39 ((i : Int) - 1) = h then h else x_pbt S (x_rd S w h i) n
def x_ft (S : zS) (n w h : Int) : Nat → Nat → zS × Int
  | _, 0 => (S, 3)
  | i, k + 1 =>
    if S.2.1 39 ((i : Int) - 1) = S.2.1 13 n then (S, 0)
    else if ¬ S.2.1 9 (S.2.1 39 ((i : Int) - 1)) = 0 then (S, 4)
    else if x_nx S n w h i = S.2.1 39 ((i : Int) - 1) ∨ x_nx S n w h i = x_rd S w h i then (S, 4)
    else if x_has S (x_nx S n w h i) 0 i then (x_ha S (x_nx S n w h i), 3)
    else x_ft (x_ha S (x_nx S n w h i)) n w h (i + 1) k
/-- what a walk needs: the tables' entries and the hops are firms -/
def xT (S : zS) (n h : Int) (i : Nat) : Prop := S.1 4 = i ∧ (1 ≤ i ∧ i ≤ 7) ∧ (0 ≤ n ∧ n < 200) ∧ (0 ≤ h ∧ h < 6) ∧ S.2.1 8 (n / 10) = h ∧ (∀ f : Int, 0 ≤ f → f < 6 → 0 ≤ S.2.1 (30 + f.toNat) n ∧ S.2.1 (30 + f.toNat) n ≤ 6) ∧ (∀ j : Int, 0 ≤ j → j < i → 0 ≤ S.2.1 39 j ∧ S.2.1 39 j < 6)
theorem x_rd_rng {S : zS} {n w h : Int} {i : Nat} (T : xT S n h i) : 0 ≤ x_rd S w h i ∧ x_rd S w h i < 6 := by
  obtain ⟨t1, t2, t3, t4, t5, t6, t7⟩ := T
  unfold x_rd
  split
  · exact t7 0 (by omega) (by omega)
  · exact t7 _ (by omega) (by omega)
theorem x_nx_rng {S : zS} {n w h : Int} {i : Nat} (T : xT S n h i) : 0 ≤ x_nx S n w h i ∧ x_nx S n w h i < 6 := by
  have hr := x_rd_rng (w := w) T
  obtain ⟨t1, t2, t3, t4, t5, t6, t7⟩ := T
  have h6 := t6 _ hr.1 hr.2
  unfold x_nx
  split
  · exact t4
  · unfold x_pbt
    split
    · rw [t5]; exact t4
    · omega
theorem xT_ha {S : zS} {n h x : Int} {i : Nat} (T : xT S n h i) (hi : i ≤ 6) (hx : 0 ≤ x ∧ x < 6) : xT (x_ha S x) n h (i + 1) := by
  obtain ⟨t1, t2, t3, t4, t5, t6, t7⟩ := T
  refine ⟨show S.1 4 + 1 = _ by omega, by omega, t3, t4, t5, fun f a b => ?_, fun j a b => ?_⟩
  · have e : (x_ha S x).2.1 (30 + f.toNat) n = S.2.1 (30 + f.toNat) n := by
      unfold x_ha
      rw [za_sS, za_ne (by omega)]
    rw [e]
    exact t6 f a b
  · unfold x_ha
    rw [za_sS, za_sA]
    split
    · exact hx
    · next hne => exact t7 j a (by
        by_cases q : j = S.1 4
        · exact absurd ⟨rfl, q⟩ hne
        · omega)
theorem l_X6_followTables {Q : zQ} {n w h : Int} (hg : True) : ∀ (k i : Nat) (S : zS), i + k = 7 → xT S n h i → (∀ f : Int, 0 ≤ f → f < 6 → S.2.1 9 f = 0 ∨ S.2.1 9 f = 1) → Q (.ok (some (zI (x_ft S n w h i k).2))) (x_ft S n w h i k).1 →
    ∀ v5 v6 v7 v8 v9 v10, z_G mX6_followTables (z_F mX6_followTables Q) 0 3 [some (zR 0), some (zI n), some (zI w), some (zI h), some (zI (i : Int)), v5, v6, v7, v8, v9, v10] [] S := by
  intro k
  induction k with
  | zero =>
    intro i S hi T hgone hQ v5 v6 v7 v8 v9 v10
    refine g_iload (q := 5) dX6_followTables_3 rfl rfl ?_
    refine g_bipush (q := 7) dX6_followTables_5 rfl ⟨by decide, by decide⟩ (by decide) ?_
    refine g_icmp_gt (t := 196) (q := 10) dX6_followTables_7 (by decide) rfl (fun h7 => ?_) (fun h7 => (False.elim (by omega)))
    refine g_iconst (q := 197) dX6_followTables_196 rfl ⟨by decide, by decide⟩ ?_
    exact g_ret dX6_followTables_197 rfl (by decide) hQ
  | succ k ih =>
    intro i S hi T hgone hQ v5 v6 v7 v8 v9 v10
    obtain ⟨t1, t2, t3, t4, t5, t6, t7⟩ := id T
    have hh := t7 ((i : Int) - 1) (by omega) (by omega)
    have hh0 := t7 0 (by omega) (by omega)
    have hrd := x_rd_rng (w := w) T
    have hnx := x_nx_rng (w := w) T
    rw [x_ft] at hQ
    have kC : S.2.1 39 ((i : Int) - 1) ≠ S.2.1 13 n → S.2.1 9 (S.2.1 39 ((i : Int) - 1)) = 0 → ∀ v6 v8 v10, z_G mX6_followTables (z_F mX6_followTables Q) 0 147 [some (zR 0), some (zI n), some (zI w), some (zI h), some (zI (i : Int)), some (zI (S.2.1 39 ((i : Int) - 1))), v6, some (zI (x_rd S w h i)), v8, some (zI (x_nx S n w h i)), v10] [] S := by
      intro g1 g2 v6 v8 v10
      rw [if_neg g1, if_neg (fun q => q g2)] at hQ
      have sp := s_X5_has (S := S) (f := x_nx S n w h i) (c := i) t1 (by omega)
      by_cases hb : x_has S (x_nx S n w h i) 0 i = true
      · rw [if_pos hb] at sp hQ
        refine g_iload (q := 149) dX6_followTables_147 rfl rfl ?_
        refine g_iload (q := 151) dX6_followTables_149 rfl rfl ?_
        refine g_icmp_eq (t := 161) (q := 154) dX6_followTables_151 (by decide) rfl (fun h151 => ?_) (fun h151 => ?_)
        · refine g_iconst (q := 162) dX6_followTables_161 rfl ⟨by decide, by decide⟩ ?_
          exact g_ret dX6_followTables_162 rfl (by decide) (by rw [if_pos (by omega)] at hQ; exact hQ)
        · refine g_iload (q := 156) dX6_followTables_154 rfl rfl ?_
          refine g_iload (q := 158) dX6_followTables_156 rfl rfl ?_
          refine g_icmp_ne (t := 163) (q := 161) dX6_followTables_158 (by decide) rfl (fun h158 => ?_) (fun h158 => ?_)
          · refine g_aload_n (i := 0) (q := 164) dX6_followTables_163 rfl rfl rfl ?_
            refine g_getr (q := 167) dX6_followTables_164 rfl fk_X6_51 rfl rfl ?_
            refine g_iload (q := 169) dX6_followTables_167 rfl rfl ?_
            refine g_fnV (as := [zI (x_nx S n w h i)]) (q := 172) (u' := 0) dX6_followTables_169 rfl ck_X6_336 rfl rfl rfl (Nat.le_of_ble_eq_true rfl) (by decide) rfl (by decide) (sp) rfl ?_
            refine g_istore (q := 174) dX6_followTables_172 rfl (by decide) ?_
            refine g_aload_n (i := 0) (q := 175) dX6_followTables_174 rfl rfl rfl ?_
            refine g_getr (q := 178) dX6_followTables_175 rfl fk_X6_51 rfl rfl ?_
            refine g_iload (q := 180) dX6_followTables_178 rfl rfl ?_
            refine g_fnV (as := [zI (x_nx S n w h i)]) (q := 183) (u' := 0) dX6_followTables_180 rfl ck_X6_331 rfl rfl rfl (Nat.le_of_ble_eq_true rfl) (by decide) rfl (by decide) (s_X5_add (by omega) (by omega)) rfl ?_
            refine g_iload (q := 185) dX6_followTables_183 rfl rfl ?_
            refine g_if_eq (t := 190) (q := 188) dX6_followTables_185 (by decide) rfl (fun h185 => (False.elim (by omega))) (fun h185 => ?_)
            refine g_iconst (q := 189) dX6_followTables_188 rfl ⟨by decide, by decide⟩ ?_
            exact g_ret dX6_followTables_189 rfl (by decide) (by rw [if_neg (by omega)] at hQ; exact hQ)
          · refine g_iconst (q := 162) dX6_followTables_161 rfl ⟨by decide, by decide⟩ ?_
            exact g_ret dX6_followTables_162 rfl (by decide) (by rw [if_pos (by omega)] at hQ; exact hQ)
      · rw [if_neg hb] at sp hQ
        refine g_iload (q := 149) dX6_followTables_147 rfl rfl ?_
        refine g_iload (q := 151) dX6_followTables_149 rfl rfl ?_
        refine g_icmp_eq (t := 161) (q := 154) dX6_followTables_151 (by decide) rfl (fun h151 => ?_) (fun h151 => ?_)
        · refine g_iconst (q := 162) dX6_followTables_161 rfl ⟨by decide, by decide⟩ ?_
          exact g_ret dX6_followTables_162 rfl (by decide) (by rw [if_pos (by omega)] at hQ; exact hQ)
        · refine g_iload (q := 156) dX6_followTables_154 rfl rfl ?_
          refine g_iload (q := 158) dX6_followTables_156 rfl rfl ?_
          refine g_icmp_ne (t := 163) (q := 161) dX6_followTables_158 (by decide) rfl (fun h158 => ?_) (fun h158 => ?_)
          · refine g_aload_n (i := 0) (q := 164) dX6_followTables_163 rfl rfl rfl ?_
            refine g_getr (q := 167) dX6_followTables_164 rfl fk_X6_51 rfl rfl ?_
            refine g_iload (q := 169) dX6_followTables_167 rfl rfl ?_
            refine g_fnV (as := [zI (x_nx S n w h i)]) (q := 172) (u' := 0) dX6_followTables_169 rfl ck_X6_336 rfl rfl rfl (Nat.le_of_ble_eq_true rfl) (by decide) rfl (by decide) (sp) rfl ?_
            refine g_istore (q := 174) dX6_followTables_172 rfl (by decide) ?_
            refine g_aload_n (i := 0) (q := 175) dX6_followTables_174 rfl rfl rfl ?_
            refine g_getr (q := 178) dX6_followTables_175 rfl fk_X6_51 rfl rfl ?_
            refine g_iload (q := 180) dX6_followTables_178 rfl rfl ?_
            refine g_fnV (as := [zI (x_nx S n w h i)]) (q := 183) (u' := 0) dX6_followTables_180 rfl ck_X6_331 rfl rfl rfl (Nat.le_of_ble_eq_true rfl) (by decide) rfl (by decide) (s_X5_add (by omega) (by omega)) rfl ?_
            refine g_iload (q := 185) dX6_followTables_183 rfl rfl ?_
            refine g_if_eq (t := 190) (q := 188) dX6_followTables_185 (by decide) rfl (fun h185 => ?_) (fun h185 => (False.elim (by omega)))
            refine g_iinc (q := 193) (i := 4) (n := 1) dX6_followTables_190 rfl rfl (by constructor <;> omega) ?_
            refine g_goto (q := 0) (t := 3) dX6_followTables_193 (by decide) ?_
            exact ih (i + 1) _ (by omega) (xT_ha T (by omega) hnx) hgone (by rw [if_neg (by omega)] at hQ; exact hQ) _ _ _ _ _ _
          · refine g_iconst (q := 162) dX6_followTables_161 rfl ⟨by decide, by decide⟩ ?_
            exact g_ret dX6_followTables_162 rfl (by decide) (by rw [if_pos (by omega)] at hQ; exact hQ)
    have kB : S.2.1 39 ((i : Int) - 1) ≠ S.2.1 13 n → S.2.1 9 (S.2.1 39 ((i : Int) - 1)) = 0 → ∀ v6, z_G mX6_followTables (z_F mX6_followTables Q) 0 106 [some (zR 0), some (zI n), some (zI w), some (zI h), some (zI (i : Int)), some (zI (S.2.1 39 ((i : Int) - 1))), v6, some (zI (x_rd S w h i)), v8, v9, v10] [] S := by
      intro g1 g2 v6
      by_cases gh : ¬ w = 0 ∧ i = 1 ∧ ¬ S.2.1 39 ((i : Int) - 1) = h
      · have e : x_nx S n w h i = h := by unfold x_nx; rw [if_pos gh]
        rw [e] at kC
        refine g_iload_n (i := 2) (q := 107) dX6_followTables_106 rfl rfl rfl ?_
        refine g_if_eq (t := 126) (q := 110) dX6_followTables_107 (by decide) rfl (fun h107 => (False.elim (by omega))) (fun h107 => ?_)
        refine g_iload (q := 112) dX6_followTables_110 rfl rfl ?_
        refine g_iconst (q := 113) dX6_followTables_112 rfl ⟨by decide, by decide⟩ ?_
        refine g_icmp_ne (t := 126) (q := 116) dX6_followTables_113 (by decide) rfl (fun h113 => (False.elim (by omega))) (fun h113 => ?_)
        refine g_iload (q := 118) dX6_followTables_116 rfl rfl ?_
        refine g_iload_n (i := 3) (q := 119) dX6_followTables_118 rfl rfl rfl ?_
        refine g_icmp_eq (t := 126) (q := 122) dX6_followTables_119 (by decide) rfl (fun h119 => (False.elim (by omega))) (fun h119 => ?_)
        refine g_iconst (q := 123) dX6_followTables_122 rfl ⟨by decide, by decide⟩ ?_
        refine g_goto (q := 0) (t := 127) dX6_followTables_123 (by decide) ?_
        refine g_istore (q := 129) dX6_followTables_127 rfl (by decide) ?_
        refine g_iload (q := 131) dX6_followTables_129 rfl rfl ?_
        refine g_if_eq (t := 138) (q := 134) dX6_followTables_131 (by decide) rfl (fun h131 => (False.elim (by omega))) (fun h131 => ?_)
        refine g_iload_n (i := 3) (q := 135) dX6_followTables_134 rfl rfl rfl ?_
        refine g_goto (q := 0) (t := 145) dX6_followTables_135 (by decide) ?_
        refine g_istore (q := 147) dX6_followTables_145 rfl (by decide) ?_
        exact kC g1 g2 _ _ _
      · have e : x_nx S n w h i = x_pbt S (x_rd S w h i) n := by unfold x_nx; rw [if_neg gh]
        rw [e] at kC
        refine g_iload_n (i := 2) (q := 107) dX6_followTables_106 rfl rfl rfl ?_
        refine g_if_eq (t := 126) (q := 110) dX6_followTables_107 (by decide) rfl (fun h107 => ?_) (fun h107 => ?_)
        · refine g_iconst (q := 127) dX6_followTables_126 rfl ⟨by decide, by decide⟩ ?_
          refine g_istore (q := 129) dX6_followTables_127 rfl (by decide) ?_
          refine g_iload (q := 131) dX6_followTables_129 rfl rfl ?_
          refine g_if_eq (t := 138) (q := 134) dX6_followTables_131 (by decide) rfl (fun h131 => ?_) (fun h131 => (False.elim (by omega)))
          refine g_aload_n (i := 0) (q := 139) dX6_followTables_138 rfl rfl rfl ?_
          refine g_iload (q := 141) dX6_followTables_139 rfl rfl ?_
          refine g_iload_n (i := 1) (q := 142) dX6_followTables_141 rfl rfl rfl ?_
          refine g_fnV (as := [zI (x_rd S w h i), zI n]) (q := 145) (u' := 0) dX6_followTables_142 rfl ck_X6_277 rfl rfl rfl (Nat.le_of_ble_eq_true rfl) (by decide) rfl (by decide) (s_X6_placeByTable hrd t3) rfl ?_
          refine g_istore (q := 147) dX6_followTables_145 rfl (by decide) ?_
          exact kC g1 g2 _ _ _
        · refine g_iload (q := 112) dX6_followTables_110 rfl rfl ?_
          refine g_iconst (q := 113) dX6_followTables_112 rfl ⟨by decide, by decide⟩ ?_
          refine g_icmp_ne (t := 126) (q := 116) dX6_followTables_113 (by decide) rfl (fun h113 => ?_) (fun h113 => ?_)
          · refine g_iconst (q := 127) dX6_followTables_126 rfl ⟨by decide, by decide⟩ ?_
            refine g_istore (q := 129) dX6_followTables_127 rfl (by decide) ?_
            refine g_iload (q := 131) dX6_followTables_129 rfl rfl ?_
            refine g_if_eq (t := 138) (q := 134) dX6_followTables_131 (by decide) rfl (fun h131 => ?_) (fun h131 => (False.elim (by omega)))
            refine g_aload_n (i := 0) (q := 139) dX6_followTables_138 rfl rfl rfl ?_
            refine g_iload (q := 141) dX6_followTables_139 rfl rfl ?_
            refine g_iload_n (i := 1) (q := 142) dX6_followTables_141 rfl rfl rfl ?_
            refine g_fnV (as := [zI (x_rd S w h i), zI n]) (q := 145) (u' := 0) dX6_followTables_142 rfl ck_X6_277 rfl rfl rfl (Nat.le_of_ble_eq_true rfl) (by decide) rfl (by decide) (s_X6_placeByTable hrd t3) rfl ?_
            refine g_istore (q := 147) dX6_followTables_145 rfl (by decide) ?_
            exact kC g1 g2 _ _ _
          · refine g_iload (q := 118) dX6_followTables_116 rfl rfl ?_
            refine g_iload_n (i := 3) (q := 119) dX6_followTables_118 rfl rfl rfl ?_
            refine g_icmp_eq (t := 126) (q := 122) dX6_followTables_119 (by decide) rfl (fun h119 => ?_) (fun h119 => ?_)
            · refine g_iconst (q := 127) dX6_followTables_126 rfl ⟨by decide, by decide⟩ ?_
              refine g_istore (q := 129) dX6_followTables_127 rfl (by decide) ?_
              refine g_iload (q := 131) dX6_followTables_129 rfl rfl ?_
              refine g_if_eq (t := 138) (q := 134) dX6_followTables_131 (by decide) rfl (fun h131 => ?_) (fun h131 => (False.elim (by omega)))
              refine g_aload_n (i := 0) (q := 139) dX6_followTables_138 rfl rfl rfl ?_
              refine g_iload (q := 141) dX6_followTables_139 rfl rfl ?_
              refine g_iload_n (i := 1) (q := 142) dX6_followTables_141 rfl rfl rfl ?_
              refine g_fnV (as := [zI (x_rd S w h i), zI n]) (q := 145) (u' := 0) dX6_followTables_142 rfl ck_X6_277 rfl rfl rfl (Nat.le_of_ble_eq_true rfl) (by decide) rfl (by decide) (s_X6_placeByTable hrd t3) rfl ?_
              refine g_istore (q := 147) dX6_followTables_145 rfl (by decide) ?_
              exact kC g1 g2 _ _ _
            · exact absurd ⟨by omega, by omega, by omega⟩ gh
    by_cases g1 : S.2.1 39 ((i : Int) - 1) = S.2.1 13 n
    · rw [if_pos g1] at hQ
      refine g_iload (q := 5) dX6_followTables_3 rfl rfl ?_
      refine g_bipush (q := 7) dX6_followTables_5 rfl ⟨by decide, by decide⟩ (by decide) ?_
      refine g_icmp_gt (t := 196) (q := 10) dX6_followTables_7 (by decide) rfl (fun h7 => (False.elim (by omega))) (fun h7 => ?_)
      refine g_aload_n (i := 0) (q := 11) dX6_followTables_10 rfl rfl rfl ?_
      refine g_getr (q := 14) dX6_followTables_11 rfl fk_X6_51 rfl rfl ?_
      refine g_iload (q := 16) dX6_followTables_14 rfl rfl ?_
      refine g_iconst (q := 17) dX6_followTables_16 rfl ⟨by decide, by decide⟩ ?_
      refine g_isub (q := 18) dX6_followTables_17 rfl (by constructor <;> omega) ?_
      refine g_fnV (as := [zI ((i : Int) - 1)]) (q := 21) (u' := 0) dX6_followTables_18 rfl ck_X6_289 rfl rfl rfl (Nat.le_of_ble_eq_true rfl) (by decide) rfl (by decide) (s_X5_hopAt (by omega)) rfl ?_
      refine g_top (z := S.2.1 39 ((i : Int) - 1)) (by unfold x_hop; rw [if_pos (by omega)]) ?_
      refine g_istore (q := 23) dX6_followTables_21 rfl (by decide) ?_
      refine g_iload (q := 25) dX6_followTables_23 rfl rfl ?_
      refine g_aload_n (i := 0) (q := 26) dX6_followTables_25 rfl rfl rfl ?_
      refine g_getr (q := 29) dX6_followTables_26 rfl fk_X6_23 rfl rfl ?_
      refine g_getr (q := 32) dX6_followTables_29 rfl fk_X6_129 rfl rfl ?_
      refine g_iload_n (i := 1) (q := 33) dX6_followTables_32 rfl rfl rfl ?_
      refine g_ildv (q := 34) (z := S.2.1 13 n) dX6_followTables_33 rfl ⟨by decide, rfl, rfl⟩ (by omega) (by omega) rfl ?_
      refine g_icmp_ne (t := 39) (q := 37) dX6_followTables_34 (by decide) rfl (fun h34 => (False.elim (by omega))) (fun h34 => ?_)
      refine g_iconst (q := 38) dX6_followTables_37 rfl ⟨by decide, by decide⟩ ?_
      exact g_ret dX6_followTables_38 rfl (by decide) hQ
    · by_cases g2 : S.2.1 9 (S.2.1 39 ((i : Int) - 1)) = 0
      · by_cases gd : w = 2 ∧ i = 2 ∧ S.2.1 39 ((i : Int) - 1) = h
        · have e : x_rd S w h i = S.2.1 39 0 := by unfold x_rd; rw [if_pos gd]
          have kb := kB g1 g2
          rw [e] at kb
          refine g_iload (q := 5) dX6_followTables_3 rfl rfl ?_
          refine g_bipush (q := 7) dX6_followTables_5 rfl ⟨by decide, by decide⟩ (by decide) ?_
          refine g_icmp_gt (t := 196) (q := 10) dX6_followTables_7 (by decide) rfl (fun h7 => (False.elim (by omega))) (fun h7 => ?_)
          refine g_aload_n (i := 0) (q := 11) dX6_followTables_10 rfl rfl rfl ?_
          refine g_getr (q := 14) dX6_followTables_11 rfl fk_X6_51 rfl rfl ?_
          refine g_iload (q := 16) dX6_followTables_14 rfl rfl ?_
          refine g_iconst (q := 17) dX6_followTables_16 rfl ⟨by decide, by decide⟩ ?_
          refine g_isub (q := 18) dX6_followTables_17 rfl (by constructor <;> omega) ?_
          refine g_fnV (as := [zI ((i : Int) - 1)]) (q := 21) (u' := 0) dX6_followTables_18 rfl ck_X6_289 rfl rfl rfl (Nat.le_of_ble_eq_true rfl) (by decide) rfl (by decide) (s_X5_hopAt (by omega)) rfl ?_
          refine g_top (z := S.2.1 39 ((i : Int) - 1)) (by unfold x_hop; rw [if_pos (by omega)]) ?_
          refine g_istore (q := 23) dX6_followTables_21 rfl (by decide) ?_
          refine g_iload (q := 25) dX6_followTables_23 rfl rfl ?_
          refine g_aload_n (i := 0) (q := 26) dX6_followTables_25 rfl rfl rfl ?_
          refine g_getr (q := 29) dX6_followTables_26 rfl fk_X6_23 rfl rfl ?_
          refine g_getr (q := 32) dX6_followTables_29 rfl fk_X6_129 rfl rfl ?_
          refine g_iload_n (i := 1) (q := 33) dX6_followTables_32 rfl rfl rfl ?_
          refine g_ildv (q := 34) (z := S.2.1 13 n) dX6_followTables_33 rfl ⟨by decide, rfl, rfl⟩ (by omega) (by omega) rfl ?_
          refine g_icmp_ne (t := 39) (q := 37) dX6_followTables_34 (by decide) rfl (fun h34 => ?_) (fun h34 => (False.elim (by omega)))
          refine g_iload (q := 41) dX6_followTables_39 rfl rfl ?_
          refine g_fnS (as := [zI (S.2.1 39 ((i : Int) - 1))]) (q := 44) (u' := 0) dX6_followTables_41 rfl ck_X6_69 rfl rfl (Nat.le_of_ble_eq_true rfl) (by decide) rfl (by decide) (s_X6_isFirm_t hh) rfl ?_
          refine g_if_eq (t := 60) (q := 47) dX6_followTables_44 (by decide) rfl (fun h44 => (False.elim (by omega))) (fun h44 => ?_)
          refine g_aload_n (i := 0) (q := 48) dX6_followTables_47 rfl rfl rfl ?_
          refine g_getr (q := 51) dX6_followTables_48 rfl fk_X6_16 rfl rfl ?_
          refine g_getr (q := 54) dX6_followTables_51 rfl fk_X6_79 rfl rfl ?_
          refine g_iload (q := 56) dX6_followTables_54 rfl rfl ?_
          refine g_zldv (q := 57) (z := S.2.1 9 (S.2.1 39 ((i : Int) - 1))) dX6_followTables_56 rfl ⟨by decide, rfl, rfl⟩ (by omega) (by omega) rfl ?_
          refine g_if_eq (t := 62) (q := 60) dX6_followTables_57 (by decide) rfl (fun h57 => ?_) (fun h57 => (False.elim (by omega)))
          refine g_iload_n (i := 2) (q := 63) dX6_followTables_62 rfl rfl rfl ?_
          refine g_iconst (q := 64) dX6_followTables_63 rfl ⟨by decide, by decide⟩ ?_
          refine g_icmp_ne (t := 83) (q := 67) dX6_followTables_64 (by decide) rfl (fun h64 => (False.elim (by omega))) (fun h64 => ?_)
          refine g_iload (q := 69) dX6_followTables_67 rfl rfl ?_
          refine g_iconst (q := 70) dX6_followTables_69 rfl ⟨by decide, by decide⟩ ?_
          refine g_icmp_ne (t := 83) (q := 73) dX6_followTables_70 (by decide) rfl (fun h70 => (False.elim (by omega))) (fun h70 => ?_)
          refine g_iload (q := 75) dX6_followTables_73 rfl rfl ?_
          refine g_iload_n (i := 3) (q := 76) dX6_followTables_75 rfl rfl rfl ?_
          refine g_icmp_ne (t := 83) (q := 79) dX6_followTables_76 (by decide) rfl (fun h76 => (False.elim (by omega))) (fun h76 => ?_)
          refine g_iconst (q := 80) dX6_followTables_79 rfl ⟨by decide, by decide⟩ ?_
          refine g_goto (q := 0) (t := 84) dX6_followTables_80 (by decide) ?_
          refine g_istore (q := 86) dX6_followTables_84 rfl (by decide) ?_
          refine g_iload (q := 88) dX6_followTables_86 rfl rfl ?_
          refine g_if_eq (t := 102) (q := 91) dX6_followTables_88 (by decide) rfl (fun h88 => (False.elim (by omega))) (fun h88 => ?_)
          refine g_aload_n (i := 0) (q := 92) dX6_followTables_91 rfl rfl rfl ?_
          refine g_getr (q := 95) dX6_followTables_92 rfl fk_X6_51 rfl rfl ?_
          refine g_iconst (q := 96) dX6_followTables_95 rfl ⟨by decide, by decide⟩ ?_
          refine g_fnV (as := [zI 0]) (q := 99) (u' := 0) dX6_followTables_96 rfl ck_X6_289 rfl rfl rfl (Nat.le_of_ble_eq_true rfl) (by decide) rfl (by decide) (s_X5_hopAt (by omega)) rfl ?_
          refine g_top (z := S.2.1 39 0) (by unfold x_hop; rw [if_pos (by omega)]) ?_
          refine g_goto (q := 0) (t := 104) dX6_followTables_99 (by decide) ?_
          refine g_istore (q := 106) dX6_followTables_104 rfl (by decide) ?_
          exact kb _
        · have e : x_rd S w h i = S.2.1 39 ((i : Int) - 1) := by unfold x_rd; rw [if_neg gd]
          have kb := kB g1 g2
          rw [e] at kb
          refine g_iload (q := 5) dX6_followTables_3 rfl rfl ?_
          refine g_bipush (q := 7) dX6_followTables_5 rfl ⟨by decide, by decide⟩ (by decide) ?_
          refine g_icmp_gt (t := 196) (q := 10) dX6_followTables_7 (by decide) rfl (fun h7 => (False.elim (by omega))) (fun h7 => ?_)
          refine g_aload_n (i := 0) (q := 11) dX6_followTables_10 rfl rfl rfl ?_
          refine g_getr (q := 14) dX6_followTables_11 rfl fk_X6_51 rfl rfl ?_
          refine g_iload (q := 16) dX6_followTables_14 rfl rfl ?_
          refine g_iconst (q := 17) dX6_followTables_16 rfl ⟨by decide, by decide⟩ ?_
          refine g_isub (q := 18) dX6_followTables_17 rfl (by constructor <;> omega) ?_
          refine g_fnV (as := [zI ((i : Int) - 1)]) (q := 21) (u' := 0) dX6_followTables_18 rfl ck_X6_289 rfl rfl rfl (Nat.le_of_ble_eq_true rfl) (by decide) rfl (by decide) (s_X5_hopAt (by omega)) rfl ?_
          refine g_top (z := S.2.1 39 ((i : Int) - 1)) (by unfold x_hop; rw [if_pos (by omega)]) ?_
          refine g_istore (q := 23) dX6_followTables_21 rfl (by decide) ?_
          refine g_iload (q := 25) dX6_followTables_23 rfl rfl ?_
          refine g_aload_n (i := 0) (q := 26) dX6_followTables_25 rfl rfl rfl ?_
          refine g_getr (q := 29) dX6_followTables_26 rfl fk_X6_23 rfl rfl ?_
          refine g_getr (q := 32) dX6_followTables_29 rfl fk_X6_129 rfl rfl ?_
          refine g_iload_n (i := 1) (q := 33) dX6_followTables_32 rfl rfl rfl ?_
          refine g_ildv (q := 34) (z := S.2.1 13 n) dX6_followTables_33 rfl ⟨by decide, rfl, rfl⟩ (by omega) (by omega) rfl ?_
          refine g_icmp_ne (t := 39) (q := 37) dX6_followTables_34 (by decide) rfl (fun h34 => ?_) (fun h34 => (False.elim (by omega)))
          refine g_iload (q := 41) dX6_followTables_39 rfl rfl ?_
          refine g_fnS (as := [zI (S.2.1 39 ((i : Int) - 1))]) (q := 44) (u' := 0) dX6_followTables_41 rfl ck_X6_69 rfl rfl (Nat.le_of_ble_eq_true rfl) (by decide) rfl (by decide) (s_X6_isFirm_t hh) rfl ?_
          refine g_if_eq (t := 60) (q := 47) dX6_followTables_44 (by decide) rfl (fun h44 => (False.elim (by omega))) (fun h44 => ?_)
          refine g_aload_n (i := 0) (q := 48) dX6_followTables_47 rfl rfl rfl ?_
          refine g_getr (q := 51) dX6_followTables_48 rfl fk_X6_16 rfl rfl ?_
          refine g_getr (q := 54) dX6_followTables_51 rfl fk_X6_79 rfl rfl ?_
          refine g_iload (q := 56) dX6_followTables_54 rfl rfl ?_
          refine g_zldv (q := 57) (z := S.2.1 9 (S.2.1 39 ((i : Int) - 1))) dX6_followTables_56 rfl ⟨by decide, rfl, rfl⟩ (by omega) (by omega) rfl ?_
          refine g_if_eq (t := 62) (q := 60) dX6_followTables_57 (by decide) rfl (fun h57 => ?_) (fun h57 => (False.elim (by omega)))
          refine g_iload_n (i := 2) (q := 63) dX6_followTables_62 rfl rfl rfl ?_
          refine g_iconst (q := 64) dX6_followTables_63 rfl ⟨by decide, by decide⟩ ?_
          refine g_icmp_ne (t := 83) (q := 67) dX6_followTables_64 (by decide) rfl (fun h64 => ?_) (fun h64 => ?_)
          · refine g_iconst (q := 84) dX6_followTables_83 rfl ⟨by decide, by decide⟩ ?_
            refine g_istore (q := 86) dX6_followTables_84 rfl (by decide) ?_
            refine g_iload (q := 88) dX6_followTables_86 rfl rfl ?_
            refine g_if_eq (t := 102) (q := 91) dX6_followTables_88 (by decide) rfl (fun h88 => ?_) (fun h88 => (False.elim (by omega)))
            refine g_iload (q := 104) dX6_followTables_102 rfl rfl ?_
            refine g_istore (q := 106) dX6_followTables_104 rfl (by decide) ?_
            exact kb _
          · refine g_iload (q := 69) dX6_followTables_67 rfl rfl ?_
            refine g_iconst (q := 70) dX6_followTables_69 rfl ⟨by decide, by decide⟩ ?_
            refine g_icmp_ne (t := 83) (q := 73) dX6_followTables_70 (by decide) rfl (fun h70 => ?_) (fun h70 => ?_)
            · refine g_iconst (q := 84) dX6_followTables_83 rfl ⟨by decide, by decide⟩ ?_
              refine g_istore (q := 86) dX6_followTables_84 rfl (by decide) ?_
              refine g_iload (q := 88) dX6_followTables_86 rfl rfl ?_
              refine g_if_eq (t := 102) (q := 91) dX6_followTables_88 (by decide) rfl (fun h88 => ?_) (fun h88 => (False.elim (by omega)))
              refine g_iload (q := 104) dX6_followTables_102 rfl rfl ?_
              refine g_istore (q := 106) dX6_followTables_104 rfl (by decide) ?_
              exact kb _
            · refine g_iload (q := 75) dX6_followTables_73 rfl rfl ?_
              refine g_iload_n (i := 3) (q := 76) dX6_followTables_75 rfl rfl rfl ?_
              refine g_icmp_ne (t := 83) (q := 79) dX6_followTables_76 (by decide) rfl (fun h76 => ?_) (fun h76 => ?_)
              · refine g_iconst (q := 84) dX6_followTables_83 rfl ⟨by decide, by decide⟩ ?_
                refine g_istore (q := 86) dX6_followTables_84 rfl (by decide) ?_
                refine g_iload (q := 88) dX6_followTables_86 rfl rfl ?_
                refine g_if_eq (t := 102) (q := 91) dX6_followTables_88 (by decide) rfl (fun h88 => ?_) (fun h88 => (False.elim (by omega)))
                refine g_iload (q := 104) dX6_followTables_102 rfl rfl ?_
                refine g_istore (q := 106) dX6_followTables_104 rfl (by decide) ?_
                exact kb _
              · exact absurd ⟨by omega, by omega, by omega⟩ gd
      · rw [if_neg g1, if_pos g2] at hQ
        refine g_iload (q := 5) dX6_followTables_3 rfl rfl ?_
        refine g_bipush (q := 7) dX6_followTables_5 rfl ⟨by decide, by decide⟩ (by decide) ?_
        refine g_icmp_gt (t := 196) (q := 10) dX6_followTables_7 (by decide) rfl (fun h7 => (False.elim (by omega))) (fun h7 => ?_)
        refine g_aload_n (i := 0) (q := 11) dX6_followTables_10 rfl rfl rfl ?_
        refine g_getr (q := 14) dX6_followTables_11 rfl fk_X6_51 rfl rfl ?_
        refine g_iload (q := 16) dX6_followTables_14 rfl rfl ?_
        refine g_iconst (q := 17) dX6_followTables_16 rfl ⟨by decide, by decide⟩ ?_
        refine g_isub (q := 18) dX6_followTables_17 rfl (by constructor <;> omega) ?_
        refine g_fnV (as := [zI ((i : Int) - 1)]) (q := 21) (u' := 0) dX6_followTables_18 rfl ck_X6_289 rfl rfl rfl (Nat.le_of_ble_eq_true rfl) (by decide) rfl (by decide) (s_X5_hopAt (by omega)) rfl ?_
        refine g_top (z := S.2.1 39 ((i : Int) - 1)) (by unfold x_hop; rw [if_pos (by omega)]) ?_
        refine g_istore (q := 23) dX6_followTables_21 rfl (by decide) ?_
        refine g_iload (q := 25) dX6_followTables_23 rfl rfl ?_
        refine g_aload_n (i := 0) (q := 26) dX6_followTables_25 rfl rfl rfl ?_
        refine g_getr (q := 29) dX6_followTables_26 rfl fk_X6_23 rfl rfl ?_
        refine g_getr (q := 32) dX6_followTables_29 rfl fk_X6_129 rfl rfl ?_
        refine g_iload_n (i := 1) (q := 33) dX6_followTables_32 rfl rfl rfl ?_
        refine g_ildv (q := 34) (z := S.2.1 13 n) dX6_followTables_33 rfl ⟨by decide, rfl, rfl⟩ (by omega) (by omega) rfl ?_
        refine g_icmp_ne (t := 39) (q := 37) dX6_followTables_34 (by decide) rfl (fun h34 => ?_) (fun h34 => (False.elim (by omega)))
        refine g_iload (q := 41) dX6_followTables_39 rfl rfl ?_
        refine g_fnS (as := [zI (S.2.1 39 ((i : Int) - 1))]) (q := 44) (u' := 0) dX6_followTables_41 rfl ck_X6_69 rfl rfl (Nat.le_of_ble_eq_true rfl) (by decide) rfl (by decide) (s_X6_isFirm_t hh) rfl ?_
        refine g_if_eq (t := 60) (q := 47) dX6_followTables_44 (by decide) rfl (fun h44 => (False.elim (by omega))) (fun h44 => ?_)
        refine g_aload_n (i := 0) (q := 48) dX6_followTables_47 rfl rfl rfl ?_
        refine g_getr (q := 51) dX6_followTables_48 rfl fk_X6_16 rfl rfl ?_
        refine g_getr (q := 54) dX6_followTables_51 rfl fk_X6_79 rfl rfl ?_
        refine g_iload (q := 56) dX6_followTables_54 rfl rfl ?_
        refine g_zldv (q := 57) (z := S.2.1 9 (S.2.1 39 ((i : Int) - 1))) dX6_followTables_56 rfl ⟨by decide, rfl, rfl⟩ (by omega) (by omega) rfl ?_
        refine g_if_eq (t := 62) (q := 60) dX6_followTables_57 (by decide) rfl (fun h57 => (False.elim (by omega))) (fun h57 => ?_)
        refine g_iconst (q := 61) dX6_followTables_60 rfl ⟨by decide, by decide⟩ ?_
        exact g_ret dX6_followTables_61 rfl (by decide) hQ
theorem s_X6_followTables {S : zS} {n w h : Int} (T : xT S n h 1) (hgone : ∀ f : Int, 0 ≤ f → f < 6 → S.2.1 9 f = 0 ∨ S.2.1 9 f = 1) : z_Fn mX6_followTables [zR 0, zI n, zI w, zI h] S (some (zI (x_ft S n w h 1 6).2)) (x_ft S n w h 1 6).1 := by
  refine z_enter (by decide +kernel) rfl (z_n1 trivial (z_n1 trivial (z_n1 trivial (z_n1 trivial z_n0)))) (Nat.le_of_ble_eq_true rfl) ?_
  refine g_iconst (q := 1) dX6_followTables_0 rfl ⟨by decide, by decide⟩ ?_
  refine g_istore (q := 3) dX6_followTables_1 rfl (by decide) ?_
  exact l_X6_followTables trivial 6 1 S (by omega) T hgone ⟨rfl, rfl⟩ _ _ _ _ _ _
/-- a call: the hops are laid, how it ends -/
def x_tc (S : zS) (f n w : Int) : zS × Int :=
  if S.2.1 8 (n / 10) = -1 then (x_hb S f, 1)
  else if S.2.1 13 n = -1 then (if S.2.1 8 (n / 10) = f then (x_hb S f, 2) else (x_ha (x_hb S f) (S.2.1 8 (n / 10)), 2))
  else x_ft (x_hb S f) n w (S.2.1 8 (n / 10)) 1 6
theorem xT_hb {S : zS} {f n : Int} (hf : 0 ≤ f ∧ f < 6) (hn : 0 ≤ n ∧ n < 200) (hh : 0 ≤ S.2.1 8 (n / 10) ∧ S.2.1 8 (n / 10) < 6) (ht : ∀ f : Int, 0 ≤ f → f < 6 → 0 ≤ S.2.1 (30 + f.toNat) n ∧ S.2.1 (30 + f.toNat) n ≤ 6) : xT (x_hb S f) n (S.2.1 8 (n / 10)) 1 := by
  refine ⟨rfl, by omega, hn, hh, rfl, fun g a b => ?_, fun j a b => ?_⟩
  · have e : (x_hb S f).2.1 (30 + g.toNat) n = S.2.1 (30 + g.toNat) n := by
      unfold x_hb
      rw [za_sS, za_ne (by omega)]
    rw [e]
    exact ht g a b
  · have e : j = 0 := by omega
    subst e
    show 0 ≤ (z_sA S 39 0 f).2.1 39 0 ∧ (z_sA S 39 0 f).2.1 39 0 < 6
    rw [za_eq]
    exact hf
theorem s_X6_traceCall {S : zS} {f n w : Int} (hf : 0 ≤ f ∧ f < 6) (hn : 0 ≤ n ∧ n < 200) (hh : -1 ≤ S.2.1 8 (n / 10) ∧ S.2.1 8 (n / 10) < 6) (ht : ∀ f : Int, 0 ≤ f → f < 6 → 0 ≤ S.2.1 (30 + f.toNat) n ∧ S.2.1 (30 + f.toNat) n ≤ 6) (hgone : ∀ f : Int, 0 ≤ f → f < 6 → S.2.1 9 f = 0 ∨ S.2.1 9 f = 1) : z_Fn mX6_traceCall [zR 0, zI f, zI n, zI w] S (some (zI (x_tc S f n w).2)) (x_tc S f n w).1 := by
  refine z_enter (by decide +kernel) rfl (z_n1 trivial (z_n1 trivial (z_n1 trivial (z_n1 trivial z_n0)))) (Nat.le_of_ble_eq_true rfl) ?_
  by_cases e1 : S.2.1 8 (n / 10) = -1
  · have e : x_tc S f n w = (x_hb S f, 1) := by unfold x_tc; rw [if_pos e1]
    rw [e]
    refine g_aload_n (i := 0) (q := 1) dX6_traceCall_0 rfl rfl rfl ?_
    refine g_getr (q := 4) dX6_traceCall_1 rfl fk_X6_51 rfl rfl ?_
    refine g_iload_n (i := 1) (q := 5) dX6_traceCall_4 rfl rfl rfl ?_
    refine g_fnV (as := [zI f]) (q := 8) (u' := 0) dX6_traceCall_5 rfl ck_X6_329 rfl rfl rfl (Nat.le_of_ble_eq_true rfl) (by decide) rfl (by decide) (s_X5_begin) rfl ?_
    refine g_aload_n (i := 0) (q := 9) dX6_traceCall_8 rfl rfl rfl ?_
    refine g_iload_n (i := 2) (q := 10) dX6_traceCall_9 rfl rfl rfl ?_
    refine g_fnV (as := [zI n]) (q := 13) (u' := 0) dX6_traceCall_10 rfl ck_X6_106 rfl rfl rfl (Nat.le_of_ble_eq_true rfl) (by decide) rfl (by decide) (s_X6_holderOf hn) rfl ?_
    refine g_top (z := S.2.1 8 (n / 10)) rfl ?_
    refine g_istore (q := 15) dX6_traceCall_13 rfl (by decide) ?_
    refine g_iload (q := 17) dX6_traceCall_15 rfl rfl ?_
    refine g_iconst (q := 18) dX6_traceCall_17 rfl ⟨by decide, by decide⟩ ?_
    refine g_icmp_ne (t := 23) (q := 21) dX6_traceCall_18 (by decide) rfl (fun h18 => (False.elim (by omega))) (fun h18 => ?_)
    refine g_iconst (q := 22) dX6_traceCall_21 rfl ⟨by decide, by decide⟩ ?_
    exact g_ret dX6_traceCall_22 rfl (by decide) (by first | exact ⟨rfl, rfl⟩ | (exfalso; omega))
  · by_cases e2 : S.2.1 13 n = -1
    · by_cases e3 : S.2.1 8 (n / 10) = f
      · have e : x_tc S f n w = (x_hb S f, 2) := by unfold x_tc; rw [if_neg e1, if_pos e2, if_pos e3]
        rw [e]
        refine g_aload_n (i := 0) (q := 1) dX6_traceCall_0 rfl rfl rfl ?_
        refine g_getr (q := 4) dX6_traceCall_1 rfl fk_X6_51 rfl rfl ?_
        refine g_iload_n (i := 1) (q := 5) dX6_traceCall_4 rfl rfl rfl ?_
        refine g_fnV (as := [zI f]) (q := 8) (u' := 0) dX6_traceCall_5 rfl ck_X6_329 rfl rfl rfl (Nat.le_of_ble_eq_true rfl) (by decide) rfl (by decide) (s_X5_begin) rfl ?_
        refine g_aload_n (i := 0) (q := 9) dX6_traceCall_8 rfl rfl rfl ?_
        refine g_iload_n (i := 2) (q := 10) dX6_traceCall_9 rfl rfl rfl ?_
        refine g_fnV (as := [zI n]) (q := 13) (u' := 0) dX6_traceCall_10 rfl ck_X6_106 rfl rfl rfl (Nat.le_of_ble_eq_true rfl) (by decide) rfl (by decide) (s_X6_holderOf hn) rfl ?_
        refine g_top (z := S.2.1 8 (n / 10)) rfl ?_
        refine g_istore (q := 15) dX6_traceCall_13 rfl (by decide) ?_
        refine g_iload (q := 17) dX6_traceCall_15 rfl rfl ?_
        refine g_iconst (q := 18) dX6_traceCall_17 rfl ⟨by decide, by decide⟩ ?_
        refine g_icmp_ne (t := 23) (q := 21) dX6_traceCall_18 (by decide) rfl (fun h18 => ?_) (fun h18 => (False.elim (by omega)))
        refine g_aload_n (i := 0) (q := 24) dX6_traceCall_23 rfl rfl rfl ?_
        refine g_getr (q := 27) dX6_traceCall_24 rfl fk_X6_23 rfl rfl ?_
        refine g_iload_n (i := 2) (q := 28) dX6_traceCall_27 rfl rfl rfl ?_
        refine g_fnV (as := [zI n]) (q := 31) (u' := 0) dX6_traceCall_28 rfl ck_X6_109 rfl rfl rfl (Nat.le_of_ble_eq_true rfl) (by decide) rfl (by decide) (s_X1_isInUse_f hn (show S.2.1 13 n = -1 from e2)) rfl ?_
        refine g_if_ne (t := 51) (q := 34) dX6_traceCall_31 (by decide) rfl (fun h31 => (False.elim (by omega))) (fun h31 => ?_)
        refine g_iload (q := 36) dX6_traceCall_34 rfl rfl ?_
        refine g_iload_n (i := 1) (q := 37) dX6_traceCall_36 rfl rfl rfl ?_
        refine g_icmp_eq (t := 49) (q := 40) dX6_traceCall_37 (by decide) rfl (fun h37 => ?_) (fun h37 => (False.elim (by omega)))
        refine g_iconst (q := 50) dX6_traceCall_49 rfl ⟨by decide, by decide⟩ ?_
        exact g_ret dX6_traceCall_50 rfl (by decide) (by first | exact ⟨rfl, rfl⟩ | (exfalso; omega))
      · have e : x_tc S f n w = (x_ha (x_hb S f) (S.2.1 8 (n / 10)), 2) := by unfold x_tc; rw [if_neg e1, if_pos e2, if_neg e3]
        rw [e]
        refine g_aload_n (i := 0) (q := 1) dX6_traceCall_0 rfl rfl rfl ?_
        refine g_getr (q := 4) dX6_traceCall_1 rfl fk_X6_51 rfl rfl ?_
        refine g_iload_n (i := 1) (q := 5) dX6_traceCall_4 rfl rfl rfl ?_
        refine g_fnV (as := [zI f]) (q := 8) (u' := 0) dX6_traceCall_5 rfl ck_X6_329 rfl rfl rfl (Nat.le_of_ble_eq_true rfl) (by decide) rfl (by decide) (s_X5_begin) rfl ?_
        refine g_aload_n (i := 0) (q := 9) dX6_traceCall_8 rfl rfl rfl ?_
        refine g_iload_n (i := 2) (q := 10) dX6_traceCall_9 rfl rfl rfl ?_
        refine g_fnV (as := [zI n]) (q := 13) (u' := 0) dX6_traceCall_10 rfl ck_X6_106 rfl rfl rfl (Nat.le_of_ble_eq_true rfl) (by decide) rfl (by decide) (s_X6_holderOf hn) rfl ?_
        refine g_top (z := S.2.1 8 (n / 10)) rfl ?_
        refine g_istore (q := 15) dX6_traceCall_13 rfl (by decide) ?_
        refine g_iload (q := 17) dX6_traceCall_15 rfl rfl ?_
        refine g_iconst (q := 18) dX6_traceCall_17 rfl ⟨by decide, by decide⟩ ?_
        refine g_icmp_ne (t := 23) (q := 21) dX6_traceCall_18 (by decide) rfl (fun h18 => ?_) (fun h18 => (False.elim (by omega)))
        refine g_aload_n (i := 0) (q := 24) dX6_traceCall_23 rfl rfl rfl ?_
        refine g_getr (q := 27) dX6_traceCall_24 rfl fk_X6_23 rfl rfl ?_
        refine g_iload_n (i := 2) (q := 28) dX6_traceCall_27 rfl rfl rfl ?_
        refine g_fnV (as := [zI n]) (q := 31) (u' := 0) dX6_traceCall_28 rfl ck_X6_109 rfl rfl rfl (Nat.le_of_ble_eq_true rfl) (by decide) rfl (by decide) (s_X1_isInUse_f hn (show S.2.1 13 n = -1 from e2)) rfl ?_
        refine g_if_ne (t := 51) (q := 34) dX6_traceCall_31 (by decide) rfl (fun h31 => (False.elim (by omega))) (fun h31 => ?_)
        refine g_iload (q := 36) dX6_traceCall_34 rfl rfl ?_
        refine g_iload_n (i := 1) (q := 37) dX6_traceCall_36 rfl rfl rfl ?_
        refine g_icmp_eq (t := 49) (q := 40) dX6_traceCall_37 (by decide) rfl (fun h37 => (False.elim (by omega))) (fun h37 => ?_)
        refine g_aload_n (i := 0) (q := 41) dX6_traceCall_40 rfl rfl rfl ?_
        refine g_getr (q := 44) dX6_traceCall_41 rfl fk_X6_51 rfl rfl ?_
        refine g_iload (q := 46) dX6_traceCall_44 rfl rfl ?_
        refine g_fnV (as := [zI (S.2.1 8 (n / 10))]) (q := 49) (u' := 0) dX6_traceCall_46 rfl ck_X6_331 rfl rfl rfl (Nat.le_of_ble_eq_true rfl) (by decide) rfl (by decide) (s_X5_add (show (0 : Int) ≤ 1 by omega) (show (1 : Int) < 7 by omega)) rfl ?_
        refine g_iconst (q := 50) dX6_traceCall_49 rfl ⟨by decide, by decide⟩ ?_
        exact g_ret dX6_traceCall_50 rfl (by decide) (by first | exact ⟨rfl, rfl⟩ | (exfalso; omega))
    · have e : x_tc S f n w = x_ft (x_hb S f) n w (S.2.1 8 (n / 10)) 1 6 := by unfold x_tc; rw [if_neg e1, if_neg e2]
      rw [e]
      refine g_aload_n (i := 0) (q := 1) dX6_traceCall_0 rfl rfl rfl ?_
      refine g_getr (q := 4) dX6_traceCall_1 rfl fk_X6_51 rfl rfl ?_
      refine g_iload_n (i := 1) (q := 5) dX6_traceCall_4 rfl rfl rfl ?_
      refine g_fnV (as := [zI f]) (q := 8) (u' := 0) dX6_traceCall_5 rfl ck_X6_329 rfl rfl rfl (Nat.le_of_ble_eq_true rfl) (by decide) rfl (by decide) (s_X5_begin) rfl ?_
      refine g_aload_n (i := 0) (q := 9) dX6_traceCall_8 rfl rfl rfl ?_
      refine g_iload_n (i := 2) (q := 10) dX6_traceCall_9 rfl rfl rfl ?_
      refine g_fnV (as := [zI n]) (q := 13) (u' := 0) dX6_traceCall_10 rfl ck_X6_106 rfl rfl rfl (Nat.le_of_ble_eq_true rfl) (by decide) rfl (by decide) (s_X6_holderOf hn) rfl ?_
      refine g_top (z := S.2.1 8 (n / 10)) rfl ?_
      refine g_istore (q := 15) dX6_traceCall_13 rfl (by decide) ?_
      refine g_iload (q := 17) dX6_traceCall_15 rfl rfl ?_
      refine g_iconst (q := 18) dX6_traceCall_17 rfl ⟨by decide, by decide⟩ ?_
      refine g_icmp_ne (t := 23) (q := 21) dX6_traceCall_18 (by decide) rfl (fun h18 => ?_) (fun h18 => (False.elim (by omega)))
      refine g_aload_n (i := 0) (q := 24) dX6_traceCall_23 rfl rfl rfl ?_
      refine g_getr (q := 27) dX6_traceCall_24 rfl fk_X6_23 rfl rfl ?_
      refine g_iload_n (i := 2) (q := 28) dX6_traceCall_27 rfl rfl rfl ?_
      refine g_fnV (as := [zI n]) (q := 31) (u' := 0) dX6_traceCall_28 rfl ck_X6_109 rfl rfl rfl (Nat.le_of_ble_eq_true rfl) (by decide) rfl (by decide) (s_X1_isInUse_t hn (show ¬ S.2.1 13 n = -1 from e2)) rfl ?_
      refine g_if_ne (t := 51) (q := 34) dX6_traceCall_31 (by decide) rfl (fun h31 => ?_) (fun h31 => (False.elim (by omega)))
      refine g_aload_n (i := 0) (q := 52) dX6_traceCall_51 rfl rfl rfl ?_
      refine g_iload_n (i := 2) (q := 53) dX6_traceCall_52 rfl rfl rfl ?_
      refine g_iload_n (i := 3) (q := 54) dX6_traceCall_53 rfl rfl rfl ?_
      refine g_iload (q := 56) dX6_traceCall_54 rfl rfl ?_
      refine g_fnV (as := [zI n, zI w, zI (S.2.1 8 (n / 10))]) (q := 59) (u' := 0) dX6_traceCall_56 rfl ck_X6_333 rfl rfl rfl (Nat.le_of_ble_eq_true rfl) (by decide) rfl (by decide) (s_X6_followTables (xT_hb hf hn (by omega) ht) hgone) rfl ?_
      exact g_ret dX6_traceCall_59 rfl (by decide) (by first | exact ⟨rfl, rfl⟩ | (exfalso; omega))
/-- who pays for a call that has arrived -/
def x_pfl (S : zS) : Nat → Nat → zS
  | _, 0 => S
  | i, k + 1 => x_pfl (x_pay S (S.2.1 39 0) (S.2.1 39 i) 1) (i + 1) k
def x_pf (S : zS) : zS := if S.1 4 - 1 < 1 then S else x_pfl (x_pay S (S.2.1 39 0) (S.2.1 39 (S.1 4 - 1)) 3) 1 (S.1 4 - 2).toNat
theorem x_pay_39 {S : zS} {p t m j : Int} : (x_pay S p t m).2.1 39 j = S.2.1 39 j := by
  unfold x_pay
  rw [za_ne (by omega), za_ne (by omega)]
theorem l_X6_payForCall {Q : zQ} {f : Int} {len : Nat} (hf : 0 ≤ f ∧ f < 6) (h7 : len ≤ 7) : ∀ (k i : Nat) (S : zS), i + k + 1 = len → 1 ≤ i → S.1 4 = len → S.2.1 39 0 = f → (∀ j : Int, 0 ≤ j → j < len → 0 ≤ S.2.1 39 j ∧ S.2.1 39 j < 6) → Q (.ok none) (x_pfl S i k) → z_G mX6_payForCall (z_F mX6_payForCall Q) 0 44 [some (zR 0), some (zI f), some (zI ((len : Int) - 1)), some (zI (i : Int))] [] S := by
  intro k
  induction k with
  | zero =>
    intro i S hi h1 hl h0 hr hQ
    refine g_iload_n (i := 3) (q := 45) dX6_payForCall_44 rfl rfl rfl ?_
    refine g_iload_n (i := 2) (q := 46) dX6_payForCall_45 rfl rfl rfl ?_
    refine g_icmp_ge (t := 72) (q := 49) dX6_payForCall_46 (by decide) rfl (fun h46 => ?_) (fun h46 => (False.elim (by omega)))
    exact g_retv dX6_payForCall_72 rfl (by decide) hQ
  | succ k ih =>
    intro i S hi h1 hl h0 hr hQ
    have hr1 := hr (i : Int) (by omega) (by omega)
    rw [x_pfl, h0] at hQ
    refine g_iload_n (i := 3) (q := 45) dX6_payForCall_44 rfl rfl rfl ?_
    refine g_iload_n (i := 2) (q := 46) dX6_payForCall_45 rfl rfl rfl ?_
    refine g_icmp_ge (t := 72) (q := 49) dX6_payForCall_46 (by decide) rfl (fun h46 => (False.elim (by omega))) (fun h46 => ?_)
    refine g_aload_n (i := 0) (q := 50) dX6_payForCall_49 rfl rfl rfl ?_
    refine g_getr (q := 53) dX6_payForCall_50 rfl fk_X6_16 rfl rfl ?_
    refine g_iload_n (i := 1) (q := 54) dX6_payForCall_53 rfl rfl rfl ?_
    refine g_aload_n (i := 0) (q := 55) dX6_payForCall_54 rfl rfl rfl ?_
    refine g_getr (q := 58) dX6_payForCall_55 rfl fk_X6_51 rfl rfl ?_
    refine g_iload_n (i := 3) (q := 59) dX6_payForCall_58 rfl rfl rfl ?_
    refine g_fnV (as := [zI (i : Int)]) (q := 62) (u' := 0) dX6_payForCall_59 rfl ck_X6_289 rfl rfl rfl (Nat.le_of_ble_eq_true rfl) (by decide) rfl (by decide) (s_X5_hopAt (by omega)) rfl ?_
    refine g_top (z := S.2.1 39 (i : Int)) (by unfold x_hop; rw [if_pos (by omega)]) ?_
    refine g_iconst (q := 63) dX6_payForCall_62 rfl ⟨by decide, by decide⟩ ?_
    refine g_fnV (as := [zI f, zI (S.2.1 39 (i : Int)), zI 1]) (q := 66) (u' := 0) dX6_payForCall_63 rfl ck_X6_216 rfl rfl rfl (Nat.le_of_ble_eq_true rfl) (by decide) rfl (by decide) (s_X2_pay (by omega) (by omega)) rfl ?_
    refine g_iinc (q := 69) (i := 3) (n := 1) dX6_payForCall_66 rfl rfl (by constructor <;> omega) ?_
    refine g_goto (q := 0) (t := 44) dX6_payForCall_69 (by decide) ?_
    exact ih (i + 1) _ (by omega) (by omega) hl (by rw [x_pay_39]; exact h0) (fun j a b => by rw [x_pay_39]; exact hr j a b) hQ
theorem s_X6_payForCall {S : zS} {len : Nat} (hl : S.1 4 = len) (h1 : 1 ≤ len) (h7 : len ≤ 7) (hr : ∀ j : Int, 0 ≤ j → j < len → 0 ≤ S.2.1 39 j ∧ S.2.1 39 j < 6) : z_Fn mX6_payForCall [zR 0] S none (x_pf S) := by
  have hr0 := hr 0 (by omega) (by omega)
  have hr1 := hr (S.1 4 - 1) (by omega) (by omega)
  refine z_enter (by decide +kernel) rfl (z_n1 trivial z_n0) (Nat.le_of_ble_eq_true rfl) ?_
  by_cases e1 : S.1 4 - 1 < 1
  · have e : x_pf S = S := by unfold x_pf; rw [if_pos e1]
    rw [e]
    refine g_aload_n (i := 0) (q := 1) dX6_payForCall_0 rfl rfl rfl ?_
    refine g_getr (q := 4) dX6_payForCall_1 rfl fk_X6_51 rfl rfl ?_
    refine g_iconst (q := 5) dX6_payForCall_4 rfl ⟨by decide, by decide⟩ ?_
    refine g_fnV (as := [zI 0]) (q := 8) (u' := 0) dX6_payForCall_5 rfl ck_X6_289 rfl rfl rfl (Nat.le_of_ble_eq_true rfl) (by decide) rfl (by decide) (s_X5_hopAt (by omega)) rfl ?_
    refine g_top (z := S.2.1 39 0) (by unfold x_hop; rw [if_pos (by omega)]) ?_
    refine g_istore_n (i := 1) (q := 9) dX6_payForCall_8 rfl rfl (by decide) ?_
    refine g_aload_n (i := 0) (q := 10) dX6_payForCall_9 rfl rfl rfl ?_
    refine g_getr (q := 13) dX6_payForCall_10 rfl fk_X6_51 rfl rfl ?_
    refine g_getv (q := 16) (z := S.1 4) dX6_payForCall_13 rfl fk_X6_339 rfl rfl rfl ?_
    refine g_iconst (q := 17) dX6_payForCall_16 rfl ⟨by decide, by decide⟩ ?_
    refine g_isub (q := 18) dX6_payForCall_17 rfl (by constructor <;> omega) ?_
    refine g_istore_n (i := 2) (q := 19) dX6_payForCall_18 rfl rfl (by decide) ?_
    refine g_iload_n (i := 2) (q := 20) dX6_payForCall_19 rfl rfl rfl ?_
    refine g_iconst (q := 21) dX6_payForCall_20 rfl ⟨by decide, by decide⟩ ?_
    refine g_icmp_ge (t := 25) (q := 24) dX6_payForCall_21 (by decide) rfl (fun h21 => (False.elim (by omega))) (fun h21 => ?_)
    exact g_retv dX6_payForCall_24 rfl (by decide) (by first | exact ⟨rfl, rfl⟩ | (exfalso; omega))
  · have e : x_pf S = x_pfl (x_pay S (S.2.1 39 0) (S.2.1 39 (S.1 4 - 1)) 3) 1 (S.1 4 - 2).toNat := by unfold x_pf; rw [if_neg e1]
    rw [e]
    refine g_aload_n (i := 0) (q := 1) dX6_payForCall_0 rfl rfl rfl ?_
    refine g_getr (q := 4) dX6_payForCall_1 rfl fk_X6_51 rfl rfl ?_
    refine g_iconst (q := 5) dX6_payForCall_4 rfl ⟨by decide, by decide⟩ ?_
    refine g_fnV (as := [zI 0]) (q := 8) (u' := 0) dX6_payForCall_5 rfl ck_X6_289 rfl rfl rfl (Nat.le_of_ble_eq_true rfl) (by decide) rfl (by decide) (s_X5_hopAt (by omega)) rfl ?_
    refine g_top (z := S.2.1 39 0) (by unfold x_hop; rw [if_pos (by omega)]) ?_
    refine g_istore_n (i := 1) (q := 9) dX6_payForCall_8 rfl rfl (by decide) ?_
    refine g_aload_n (i := 0) (q := 10) dX6_payForCall_9 rfl rfl rfl ?_
    refine g_getr (q := 13) dX6_payForCall_10 rfl fk_X6_51 rfl rfl ?_
    refine g_getv (q := 16) (z := S.1 4) dX6_payForCall_13 rfl fk_X6_339 rfl rfl rfl ?_
    refine g_iconst (q := 17) dX6_payForCall_16 rfl ⟨by decide, by decide⟩ ?_
    refine g_isub (q := 18) dX6_payForCall_17 rfl (by constructor <;> omega) ?_
    refine g_istore_n (i := 2) (q := 19) dX6_payForCall_18 rfl rfl (by decide) ?_
    refine g_iload_n (i := 2) (q := 20) dX6_payForCall_19 rfl rfl rfl ?_
    refine g_iconst (q := 21) dX6_payForCall_20 rfl ⟨by decide, by decide⟩ ?_
    refine g_icmp_ge (t := 25) (q := 24) dX6_payForCall_21 (by decide) rfl (fun h21 => ?_) (fun h21 => (False.elim (by omega)))
    refine g_aload_n (i := 0) (q := 26) dX6_payForCall_25 rfl rfl rfl ?_
    refine g_getr (q := 29) dX6_payForCall_26 rfl fk_X6_16 rfl rfl ?_
    refine g_iload_n (i := 1) (q := 30) dX6_payForCall_29 rfl rfl rfl ?_
    refine g_aload_n (i := 0) (q := 31) dX6_payForCall_30 rfl rfl rfl ?_
    refine g_getr (q := 34) dX6_payForCall_31 rfl fk_X6_51 rfl rfl ?_
    refine g_iload_n (i := 2) (q := 35) dX6_payForCall_34 rfl rfl rfl ?_
    refine g_fnV (as := [zI ((S.1 4) - 1)]) (q := 38) (u' := 0) dX6_payForCall_35 rfl ck_X6_289 rfl rfl rfl (Nat.le_of_ble_eq_true rfl) (by decide) rfl (by decide) (s_X5_hopAt (by omega)) rfl ?_
    refine g_top (z := S.2.1 39 (S.1 4 - 1)) (by unfold x_hop; rw [if_pos (by omega)]) ?_
    refine g_iconst (q := 39) dX6_payForCall_38 rfl ⟨by decide, by decide⟩ ?_
    refine g_fnV (as := [zI (S.2.1 39 0), zI (S.2.1 39 (S.1 4 - 1)), zI 3]) (q := 42) (u' := 0) dX6_payForCall_39 rfl ck_X6_216 rfl rfl rfl (Nat.le_of_ble_eq_true rfl) (by decide) rfl (by decide) (s_X2_pay (by omega) (by omega)) rfl ?_
    refine g_iconst (q := 43) dX6_payForCall_42 rfl ⟨by decide, by decide⟩ ?_
    refine g_istore_n (i := 3) (q := 44) dX6_payForCall_43 rfl rfl (by decide) ?_
    have hk := l_X6_payForCall (Q := fun x T => x = .ok none ∧ T = x_pfl (x_pay S (S.2.1 39 0) (S.2.1 39 (S.1 4 - 1)) 3) 1 (S.1 4 - 2).toNat) hr0 h7 (S.1 4 - 2).toNat 1 (x_pay S (S.2.1 39 0) (S.2.1 39 (S.1 4 - 1)) 3) (by omega) (by omega) hl (by rw [x_pay_39]) (fun j a b => by rw [x_pay_39]; exact hr j a b) ⟨rfl, rfl⟩
    rw [← hl] at hk
    exact hk
