/-! ===== the law's cases: orders turned back ===== -/
section
variable {hh : List (Nat × Nat × Nat × Nat)} {F : zF} {n : Nat} {v w i f : Int}
theorem lc_rev_loop {c : Nat} (hn : n < 150) (hK : ∀ U, zInv n U → z_G (mLw hh) F (500 * n + 30) 2263 [some (zR 49), some (zR 0), some (zR 7), some (zR 40), some (zR 41), some (zR 42), some (zR 43), some (zR 44), some (zR 48), some (zR 45), some (zR 46), some (zR 47), some (zI (n : Int)), some (zI v), some (zI w), some (zI i), some (zI (zdg i)), some (zI f), some (zI 1), none, none, none, none, none, none, none, none, none, none, none, none, none, none, none, none, none, none, none, none, none, none, none, none, none, none, none, none, none, none, none] [] U) : ∀ (k : Nat) (b : Int) (T : zS), zInv n T → T.1 1 = c → T.1 2 + k ≤ 50 → k ≤ 5 → b < c → (0 ≤ b → b - (c - 6) ≤ k) → z_G (mLw hh) F (500 * n + 30 - 2 * k) 2041 [some (zR 49), some (zR 0), some (zR 7), some (zR 40), some (zR 41), some (zR 42), some (zR 43), some (zR 44), some (zR 48), some (zR 45), some (zR 46), some (zR 47), some (zI (n : Int)), some (zI v), some (zI w), some (zI i), some (zI (zdg i)), some (zI f), some (zI 1), none, none, none, none, none, none, none, none, none, none, none, none, none, none, none, none, none, none, some (zI b), none, none, none, none, none, none, none, none, none, none, none, none] [] T := by
  intro k
  induction k with
  | zero =>
    intro b T hI hc h2 hk5 hbc hbk
    have h := hI.1
    have hord := h.ord
    have hor := h.ordr
    by_cases c0 : b < 0
    · skip
      refine g_iload (q := 2043) dL_law_2041 rfl rfl ?_
      refine g_if_lt (t := 2263) (q := 2046) dL_law_2043 (by decide) rfl (fun h2043 => ?_) (fun h2043 => (False.elim (by omega)))
      exact g_forget (z_sub_r (z_sub_r (z_sub_r (z_sub_r (z_sub_r (z_sub_r (z_sub_r (z_sub_r (z_sub_r (z_sub_r (z_sub_r (z_sub_r (z_sub_r (z_sub_r (z_sub_r (z_sub_r (z_sub_r (z_sub_r (z_sub_r (z_sub_n (z_sub_n (z_sub_n (z_sub_n (z_sub_n (z_sub_n (z_sub_n (z_sub_n (z_sub_n (z_sub_n (z_sub_n (z_sub_n (z_sub_n (z_sub_n (z_sub_n (z_sub_n (z_sub_n (z_sub_n (z_sub_n (z_sub_n (z_sub_n (z_sub_n (z_sub_n (z_sub_n (z_sub_n (z_sub_n (z_sub_n (z_sub_n (z_sub_n (z_sub_n (z_sub_n z_sub_0)))))))))))))))))))))))))))))))))))))))))))))))))) (hK T hI)
    · skip
      refine g_iload (q := 2043) dL_law_2041 rfl rfl ?_
      refine g_if_lt (t := 2263) (q := 2046) dL_law_2043 (by decide) rfl (fun h2043 => (False.elim (by omega))) (fun h2043 => ?_)
      refine g_iload (q := 2048) dL_law_2046 rfl rfl ?_
      refine g_aload (q := 2050) dL_law_2048 rfl rfl ?_
      refine g_iconst (q := 2051) dL_law_2050 rfl ⟨by decide, by decide⟩ ?_
      refine g_ildv (q := 2052) (z := T.2.1 47 1) dL_law_2051 rfl ⟨by decide, rfl, rfl⟩ (by omega) (by omega) rfl ?_
      refine g_bipush (q := 2054) dL_law_2052 rfl ⟨by decide, by decide⟩ (by decide) ?_
      refine g_isub (q := 2055) dL_law_2054 rfl (by constructor <;> omega) ?_
      refine g_icmp_le (t := 2263) (q := 2058) dL_law_2055 (by decide) rfl (fun h2055 => ?_) (fun h2055 => (False.elim (by omega)))
      exact g_forget (z_sub_r (z_sub_r (z_sub_r (z_sub_r (z_sub_r (z_sub_r (z_sub_r (z_sub_r (z_sub_r (z_sub_r (z_sub_r (z_sub_r (z_sub_r (z_sub_r (z_sub_r (z_sub_r (z_sub_r (z_sub_r (z_sub_r (z_sub_n (z_sub_n (z_sub_n (z_sub_n (z_sub_n (z_sub_n (z_sub_n (z_sub_n (z_sub_n (z_sub_n (z_sub_n (z_sub_n (z_sub_n (z_sub_n (z_sub_n (z_sub_n (z_sub_n (z_sub_n (z_sub_n (z_sub_n (z_sub_n (z_sub_n (z_sub_n (z_sub_n (z_sub_n (z_sub_n (z_sub_n (z_sub_n (z_sub_n (z_sub_n (z_sub_n z_sub_0)))))))))))))))))))))))))))))))))))))))))))))))))) (hK T hI)
  | succ k ih =>
    intro b T hI hc h2 hk5 hbc hbk
    have h := hI.1
    have hb := hI.ab (by omega)
    have hord := h.ord
    have hor := h.ordr
    have hcg := h.chg
    have hcr := h.chgr
    have hnow := h.now
    have hnr := h.nowr
    have h3 : T.1 3 < 572 := by have := hI.2.2; omega
    have hnx : 0 ≤ b → ∀ U, zInv n U → U.1 1 = c → U.1 2 ≤ T.1 2 + 1 → z_G (mLw hh) F (500 * n + 30 - 2 * (k + 1) + 2) 2257 [some (zR 49), some (zR 0), some (zR 7), some (zR 40), some (zR 41), some (zR 42), some (zR 43), some (zR 44), some (zR 48), some (zR 45), some (zR 46), some (zR 47), some (zI (n : Int)), some (zI v), some (zI w), some (zI i), some (zI (zdg i)), some (zI f), some (zI 1), none, none, none, none, none, none, none, none, none, none, none, none, none, none, none, none, none, none, some (zI b), none, none, none, none, none, none, none, none, none, none, none, none] [] U := by
      intro hb00 U hU hUc hU2
      have hi1 := ih (b + -1) U hU hUc (by omega) (by omega) (by omega) (by omega)
      refine g_iinc (q := 2260) (i := 37) (n := -1) dL_law_2257 rfl rfl (by constructor <;> omega) ?_
      refine g_goto (q := 0) (t := 2041) dL_law_2260 (by decide) ?_
      exact z_G.widen (by omega) hi1
    by_cases c0 : b < 0
    · skip
      refine g_iload (q := 2043) dL_law_2041 rfl rfl ?_
      refine g_if_lt (t := 2263) (q := 2046) dL_law_2043 (by decide) rfl (fun h2043 => ?_) (fun h2043 => (False.elim (by omega)))
      exact g_forget (z_sub_r (z_sub_r (z_sub_r (z_sub_r (z_sub_r (z_sub_r (z_sub_r (z_sub_r (z_sub_r (z_sub_r (z_sub_r (z_sub_r (z_sub_r (z_sub_r (z_sub_r (z_sub_r (z_sub_r (z_sub_r (z_sub_r (z_sub_n (z_sub_n (z_sub_n (z_sub_n (z_sub_n (z_sub_n (z_sub_n (z_sub_n (z_sub_n (z_sub_n (z_sub_n (z_sub_n (z_sub_n (z_sub_n (z_sub_n (z_sub_n (z_sub_n (z_sub_n (z_sub_n (z_sub_n (z_sub_n (z_sub_n (z_sub_n (z_sub_n (z_sub_n (z_sub_n (z_sub_n (z_sub_n (z_sub_n (z_sub_n (z_sub_n z_sub_0)))))))))))))))))))))))))))))))))))))))))))))))))) (z_G.widen (by omega) (hK T hI))
    · by_cases c6 : b ≤ (c : Int) - 6
      · skip
        refine g_iload (q := 2043) dL_law_2041 rfl rfl ?_
        refine g_if_lt (t := 2263) (q := 2046) dL_law_2043 (by decide) rfl (fun h2043 => (False.elim (by omega))) (fun h2043 => ?_)
        refine g_iload (q := 2048) dL_law_2046 rfl rfl ?_
        refine g_aload (q := 2050) dL_law_2048 rfl rfl ?_
        refine g_iconst (q := 2051) dL_law_2050 rfl ⟨by decide, by decide⟩ ?_
        refine g_ildv (q := 2052) (z := T.2.1 47 1) dL_law_2051 rfl ⟨by decide, rfl, rfl⟩ (by omega) (by omega) rfl ?_
        refine g_bipush (q := 2054) dL_law_2052 rfl ⟨by decide, by decide⟩ (by decide) ?_
        refine g_isub (q := 2055) dL_law_2054 rfl (by constructor <;> omega) ?_
        refine g_icmp_le (t := 2263) (q := 2058) dL_law_2055 (by decide) rfl (fun h2055 => ?_) (fun h2055 => (False.elim (by omega)))
        exact g_forget (z_sub_r (z_sub_r (z_sub_r (z_sub_r (z_sub_r (z_sub_r (z_sub_r (z_sub_r (z_sub_r (z_sub_r (z_sub_r (z_sub_r (z_sub_r (z_sub_r (z_sub_r (z_sub_r (z_sub_r (z_sub_r (z_sub_r (z_sub_n (z_sub_n (z_sub_n (z_sub_n (z_sub_n (z_sub_n (z_sub_n (z_sub_n (z_sub_n (z_sub_n (z_sub_n (z_sub_n (z_sub_n (z_sub_n (z_sub_n (z_sub_n (z_sub_n (z_sub_n (z_sub_n (z_sub_n (z_sub_n (z_sub_n (z_sub_n (z_sub_n (z_sub_n (z_sub_n (z_sub_n (z_sub_n (z_sub_n (z_sub_n (z_sub_n z_sub_0)))))))))))))))))))))))))))))))))))))))))))))))))) (z_G.widen (by omega) (hK T hI))
      · have hb0 : 0 ≤ b ∧ b < T.1 1 := by omega
        have qv := h.orv b hb0.1 hb0.2
        have qs := h.ors b hb0.1 hb0.2
        have qd := h.ordd b hb0.1 hb0.2
        obtain ⟨wh, ewh⟩ : ∃ z, z = T.2.1 42 b / 64 % 16 := ⟨_, rfl⟩
        obtain ⟨dn, edn⟩ : ∃ z, z = T.2.1 42 b / 8192 % 8 - 1 := ⟨_, rfl⟩
        have hwh : 0 ≤ wh ∧ wh < 12 := by omega
        have hsv := h.serv wh hwh.1 hwh.2
        have hby := h.by wh hwh.1 hwh.2
        have e21 : T.2.1 21 b = zdg wh := by rw [ewh]; exact qs.2.2.1
        have e23 : T.2.1 23 b = dn := by rw [edn]; exact qs.2.2.2.2.1
        have k65 : ∀ cn : Int, ((cn = 1 ∧ T.2.1 42 b % 8 = 2 ∧ T.2.1 47 0 ≤ T.2.1 43 b + 60 ∧ ¬ T.2.1 40 wh = -1 ∧ T.2.1 41 wh = b ∧ T.2.1 9 dn = 0) ∨ (cn = 0 ∧ ¬ (T.2.1 42 b % 8 = 2 ∧ T.2.1 47 0 ≤ T.2.1 43 b + 60 ∧ ¬ T.2.1 40 wh = -1 ∧ T.2.1 41 wh = b ∧ T.2.1 9 dn = 0))) → z_G (mLw hh) F (500 * n + 30 - 2 * (k + 1) + 0) 2165 [some (zR 49), some (zR 0), some (zR 7), some (zR 40), some (zR 41), some (zR 42), some (zR 43), some (zR 44), some (zR 48), some (zR 45), some (zR 46), some (zR 47), some (zI (n : Int)), some (zI v), some (zI w), some (zI i), some (zI (zdg i)), some (zI f), some (zI 1), none, none, none, none, none, none, none, none, none, none, none, none, none, none, none, none, none, none, some (zI b), some (zI wh), some (zI dn), none, none, none, none, none, none, none, none, none, none] [zI cn] T := by
          intro cn hcn
          rcases hcn with ⟨rfl, g1, g2, g3, g4, g5⟩ | ⟨rfl, g1⟩
          · have qd2 := qd (by omega)
            have hdn : 0 ≤ dn ∧ dn < 6 := by omega
            have q := q_rev_ok h (by omega) h3 hb0 ⟨by omega, by omega, by rw [e21, ← hsv.1]; exact g3, by rw [e23]; exact g5, by rw [e21, ← hby (by rw [← hsv.1]; exact g3)]; exact g4⟩
            rw [e23] at q
            have ew : T.2.1 22 b = T.2.1 42 b / 1024 % 8 := qs.2.2.2.1
            have hrv := rel_rv h hb hb0 (i := wh) (d := dn) (w := T.2.1 42 b / 1024 % 8) (by omega) hwh hdn (by omega) e21 e23 ew (by rw [← hsv.1]; exact g3)
            have hwd := h.word hb hdn
            have hww := h.word hb (f := T.2.1 42 b / 1024 % 8) (by omega)
            obtain ⟨X, eX⟩ : ∃ X, X = x_rv T b := ⟨_, rfl⟩
            have hlw : zlw X T := by rw [eX]; exact zlw_rv
            obtain ⟨ww, eww⟩ : ∃ z, z = T.2.1 42 b / 1024 % 8 := ⟨_, rfl⟩
            rw [← eww] at hrv hww ew
            have x42 : ∀ j, X.2.1 42 j = T.2.1 42 j := fun j => congrFun (hlw.1 42 (by omega)) j
            have x46 : ∀ j, X.2.1 46 j = T.2.1 46 j := fun j => congrFun (hlw.1 46 (by omega)) j
            have x47 : ∀ j, X.2.1 47 j = T.2.1 47 j := fun j => congrFun (hlw.1 47 (by omega)) j
            obtain ⟨Y, eY⟩ : ∃ Y, Y = z_sA (z_sA (z_sA X 42 b (T.2.1 42 b + 2)) 46 dn (T.2.1 46 dn - 5120)) 46 ww ((z_sA T 46 dn (T.2.1 46 dn - 5120)).2.1 46 ww + 5120) := ⟨_, rfl⟩
            have hYl : zlw Y (y_pay (z_sA T 42 b (T.2.1 42 b + 2)) dn ww 5120) := by
              rw [eY]
              unfold y_pay
              exact zlw_w (zlw_w (zlw_w hlw))
            have hYc : zcl Y X := by
              rw [eY]
              exact zcl_w (zcl_w (zcl_w zcl.rf (by omega)) (by omega)) (by omega)
            have y47 : ∀ j, Y.2.1 47 j = T.2.1 47 j := fun j => by rw [eY]; exact x47 j
            have y7 : ∀ j, Y.2.1 7 j = T.2.1 7 j := fun j => by rw [eY]; exact congrFun (hlw.1 7 (by omega)) j
            have hgl : zlw (y_gt Y wh dn) (y_gt (y_pay (z_sA T 42 b (T.2.1 42 b + 2)) dn ww 5120) wh dn) := by
              have a1 := congrFun (hYl.1 47 (by omega))
              have a2 := congrFun (hYl.1 7 (by omega))
              unfold y_gt
              rw [a1 2, a1 0, a2 (wh / 3)]
              exact zlw_w (zlw_w (zlw_w hYl))
            have hgc : zcl (y_gt Y wh dn) X := zcl_w (zcl_w (zcl_w hYc (by omega)) (by omega)) (by omega)
            have hRR : Rel (y_gt Y wh dn) (y_gt Y wh dn) := by
              rw [← eX] at hrv
              exact hrv.both hgc hgl
            have y1 : Y.1 = X.1 := by rw [eY]; rfl
            have y12 : Y.2.1 12 = X.2.1 12 := by rw [eY]; rfl
            have hN := hI.rv hn (o := b) (Y := y_gt Y wh dn) (by omega) (by omega) (by omega) hRR (by rw [← eX]; exact y1) (by rw [← eX]; exact y12)
            have hnxt := hnx hb0.1 _ hN (by show Y.1 1 = c; rw [y1, eX]; exact hc) (by show Y.1 2 ≤ T.1 2 + 1; rw [y1, eX]; show T.1 2 + 1 ≤ T.1 2 + 1; omega)
            have hgt := s_L_goesTo (T := Y) hwh hdn (by rw [y47]; omega) (by rw [y47]; omega)
            have hz : ∀ j, (z_sA T 46 dn (T.2.1 46 dn - 5120)).2.1 46 j = if j = dn then T.2.1 46 dn - 5120 else T.2.1 46 j := fun j => by
              rw [za_sA]
              simp
            have hzw := hz ww
            have hzx : (z_sA (z_sA X 42 b (T.2.1 42 b + 2)) 46 dn (T.2.1 46 dn - 5120)).2.1 46 ww = (z_sA T 46 dn (T.2.1 46 dn - 5120)).2.1 46 ww := by
              by_cases e : ww = dn
              · rw [e, za_eq, za_eq]
              · rw [za_ni e, za_ni e, za_ne (by omega)]
                exact x46 ww
            have hzr : 0 ≤ (z_sA T 46 dn (T.2.1 46 dn - 5120)).2.1 46 ww ∧ (z_sA T 46 dn (T.2.1 46 dn - 5120)).2.1 46 ww < 100000000 := by
              have b1 := hb dn hdn.1 hdn.2
              have b2 := hb ww (by omega) (by omega)
              rw [hzw]
              split <;> omega
            have b1 := hb dn hdn.1 hdn.2
            rw [eY] at hgt
            rw [eY] at hnxt
            rw [← eX] at q
            obtain ⟨zz, ezz⟩ : ∃ z, z = (z_sA T 46 dn (T.2.1 46 dn - 5120)).2.1 46 ww := ⟨_, rfl⟩
            rw [← ezz] at hzx hzr hgt hnxt
            clear hzw hz
            refine g_istore (q := 2167) dL_law_2165 rfl (Nat.le_of_ble_eq_true rfl) ?_
            refine g_iload (q := 2169) dL_law_2167 rfl rfl ?_
            refine g_aload_n (i := 1) (q := 2170) dL_law_2169 rfl rfl rfl ?_
            refine g_iload (q := 2172) dL_law_2170 rfl rfl ?_
            refine g_fnW (as := [zR 0, zI b]) (q := 2175) (u' := 500 * n + 30 - 2 * (k + 1) + 2) dL_law_2172 rfl ck_L_217 rfl rfl (Nat.le_of_ble_eq_true rfl) ⟨Nat.le_of_ble_eq_true rfl, Nat.le_of_ble_eq_true rfl⟩ rfl (show 500 * n + 30 - 2 * (k + 1) + 2 ≤ 100000 by omega) (q) ?_
            refine g_iload (q := 2177) dL_law_2175 rfl rfl ?_
            refine g_if_eq (t := 2185) (q := 2180) dL_law_2177 (by decide) rfl (fun h2177 => (False.elim (by omega))) (fun h2177 => ?_)
            refine g_iload (q := 2182) dL_law_2180 rfl rfl ?_
            refine g_goto (q := 0) (t := 2188) dL_law_2182 (by decide) ?_
            refine g_icmp_ne (t := 2195) (q := 2191) dL_law_2188 (by decide) rfl (fun h2188 => (False.elim (by omega))) (fun h2188 => ?_)
            refine g_iconst (q := 2192) dL_law_2191 rfl ⟨by decide, by decide⟩ ?_
            refine g_goto (q := 0) (t := 2196) dL_law_2192 (by decide) ?_
            refine g_iandv (q := 2197) (z := 1) dL_law_2196 rfl ((by decide)) ?_
            refine g_istore (q := 2199) dL_law_2197 rfl (Nat.le_of_ble_eq_true rfl) ?_
            refine g_iload (q := 2201) dL_law_2199 rfl rfl ?_
            refine g_if_ne (t := 2207) (q := 2204) dL_law_2201 (by decide) rfl (fun h2201 => ?_) (fun h2201 => (False.elim (by omega)))
            refine g_aload (q := 2209) dL_law_2207 rfl rfl ?_
            refine g_iload (q := 2211) dL_law_2209 rfl rfl ?_
            refine g_dup2 (q := 2212) dL_law_2211 rfl trivial trivial ?_
            refine g_ildv (q := 2213) (z := T.2.1 42 b) dL_law_2212 rfl ⟨by decide, rfl, rfl⟩ (by omega) (by omega) (x42 b) ?_
            refine g_iconst (q := 2214) dL_law_2213 rfl ⟨by decide, by decide⟩ ?_
            refine g_iadd (q := 2215) dL_law_2214 rfl (by constructor <;> omega) ?_
            refine g_iast (q := 2216) dL_law_2215 rfl ⟨by decide, rfl, rfl⟩ (by omega) (by omega) ?_
            refine g_aload (q := 2218) dL_law_2216 rfl rfl ?_
            refine g_iload (q := 2220) dL_law_2218 rfl rfl ?_
            refine g_dup2 (q := 2221) dL_law_2220 rfl trivial trivial ?_
            refine g_ildv (q := 2222) (z := T.2.1 46 dn) dL_law_2221 rfl ⟨by decide, rfl, rfl⟩ (by omega) (by omega) (x46 dn) ?_
            refine g_sipush (q := 2225) dL_law_2222 rfl ⟨by decide, by decide⟩ (by decide) ?_
            refine g_isub (q := 2226) dL_law_2225 rfl (by constructor <;> omega) ?_
            refine g_iast (q := 2227) dL_law_2226 rfl ⟨by decide, rfl, rfl⟩ (by omega) (by omega) ?_
            refine g_aload (q := 2229) dL_law_2227 rfl rfl ?_
            refine g_aload (q := 2231) dL_law_2229 rfl rfl ?_
            refine g_iload (q := 2233) dL_law_2231 rfl rfl ?_
            refine g_ildv (q := 2234) (z := T.2.1 42 b + 2) dL_law_2233 rfl ⟨by decide, rfl, rfl⟩ (by omega) (by omega) za_eq ?_
            refine g_fnS (as := [zI (T.2.1 42 b + 2)]) (q := 2237) (u' := 500 * n + 30 - 2 * (k + 1) + 2) dL_law_2234 rfl ck_L_157 rfl rfl (Nat.le_of_ble_eq_true rfl) ⟨Nat.le_of_ble_eq_true rfl, Nat.le_of_ble_eq_true rfl⟩ rfl (show 500 * n + 30 - 2 * (k + 1) + 2 ≤ 100000 by omega) ((by have sp := s_L_winner (S := z_sA (z_sA X 42 b (T.2.1 42 b + 2)) 46 dn (T.2.1 46 dn - 5120)) (v := T.2.1 42 b + 2) (by omega); rw [show (T.2.1 42 b + 2) / 1024 % 8 = ww by omega] at sp; exact sp)) rfl ?_
            refine g_dup2 (q := 2238) dL_law_2237 rfl trivial trivial ?_
            refine g_ildv (q := 2239) (z := zz) dL_law_2238 rfl ⟨by decide, rfl, rfl⟩ (by omega) (by omega) hzx ?_
            refine g_sipush (q := 2242) dL_law_2239 rfl ⟨by decide, by decide⟩ (by decide) ?_
            refine g_iadd (q := 2243) dL_law_2242 rfl (by constructor <;> omega) ?_
            refine g_iast (q := 2244) dL_law_2243 rfl ⟨by decide, rfl, rfl⟩ (by omega) (by omega) ?_
            refine g_iload (q := 2246) dL_law_2244 rfl rfl ?_
            refine g_iload (q := 2248) dL_law_2246 rfl rfl ?_
            refine g_aload_n (i := 2) (q := 2249) dL_law_2248 rfl rfl rfl ?_
            refine g_aload_n (i := 3) (q := 2250) dL_law_2249 rfl rfl rfl ?_
            refine g_aload (q := 2252) dL_law_2250 rfl rfl ?_
            refine g_aload (q := 2254) dL_law_2252 rfl rfl ?_
            refine g_fnS (as := [zI wh, zI dn, zR 7, zR 40, zR 44, zR 47]) (q := 2257) (u' := 500 * n + 30 - 2 * (k + 1) + 2) dL_law_2254 rfl ck_L_198 rfl rfl (Nat.le_of_ble_eq_true rfl) ⟨Nat.le_of_ble_eq_true rfl, Nat.le_of_ble_eq_true rfl⟩ rfl (show 500 * n + 30 - 2 * (k + 1) + 2 ≤ 100000 by omega) (hgt) rfl ?_
            exact g_forget (z_sub_r (z_sub_r (z_sub_r (z_sub_r (z_sub_r (z_sub_r (z_sub_r (z_sub_r (z_sub_r (z_sub_r (z_sub_r (z_sub_r (z_sub_r (z_sub_r (z_sub_r (z_sub_r (z_sub_r (z_sub_r (z_sub_r (z_sub_n (z_sub_n (z_sub_n (z_sub_n (z_sub_n (z_sub_n (z_sub_n (z_sub_n (z_sub_n (z_sub_n (z_sub_n (z_sub_n (z_sub_n (z_sub_n (z_sub_n (z_sub_n (z_sub_n (z_sub_n (z_sub_r (z_sub_n (z_sub_n (z_sub_n (z_sub_n (z_sub_n (z_sub_n (z_sub_n (z_sub_n (z_sub_n (z_sub_n (z_sub_n (z_sub_n z_sub_0)))))))))))))))))))))))))))))))))))))))))))))))))) hnxt
          · have q := q_rev_ex h (by omega) h3 hb0 (fun q => g1 (by
              obtain ⟨p1, p2, p3, p4, p5⟩ := q
              have p1b : T.2.1 42 b % 8 = 2 := by omega
              have qd2 := qd p1
              rw [e21] at p3 p5
              rw [e23] at p4
              exact ⟨p1b, by omega, by rw [hsv.1]; exact p3, by rw [hby p3]; exact p5, p4⟩))
            have hnxt := hnx hb0.1 T hI hc (by omega)
            clear g1
            refine g_istore (q := 2167) dL_law_2165 rfl (Nat.le_of_ble_eq_true rfl) ?_
            refine g_iload (q := 2169) dL_law_2167 rfl rfl ?_
            refine g_aload_n (i := 1) (q := 2170) dL_law_2169 rfl rfl rfl ?_
            refine g_iload (q := 2172) dL_law_2170 rfl rfl ?_
            refine g_fnW (as := [zR 0, zI b]) (q := 2175) (u' := 500 * n + 30 - 2 * (k + 1) + 2) dL_law_2172 rfl ck_L_217 rfl rfl (Nat.le_of_ble_eq_true rfl) ⟨Nat.le_of_ble_eq_true rfl, Nat.le_of_ble_eq_true rfl⟩ rfl (show 500 * n + 30 - 2 * (k + 1) + 2 ≤ 100000 by omega) (q) ?_
            refine g_iload (q := 2177) dL_law_2175 rfl rfl ?_
            refine g_if_eq (t := 2185) (q := 2180) dL_law_2177 (by decide) rfl (fun h2177 => ?_) (fun h2177 => (False.elim (by omega)))
            refine g_sipush (q := 2188) dL_law_2185 rfl ⟨by decide, by decide⟩ (by decide) ?_
            refine g_icmp_ne (t := 2195) (q := 2191) dL_law_2188 (by decide) rfl (fun h2188 => (False.elim (by omega))) (fun h2188 => ?_)
            refine g_iconst (q := 2192) dL_law_2191 rfl ⟨by decide, by decide⟩ ?_
            refine g_goto (q := 0) (t := 2196) dL_law_2192 (by decide) ?_
            refine g_iandv (q := 2197) (z := 1) dL_law_2196 rfl ((by decide)) ?_
            refine g_istore (q := 2199) dL_law_2197 rfl (Nat.le_of_ble_eq_true rfl) ?_
            refine g_iload (q := 2201) dL_law_2199 rfl rfl ?_
            refine g_if_ne (t := 2207) (q := 2204) dL_law_2201 (by decide) rfl (fun h2201 => (False.elim (by omega))) (fun h2201 => ?_)
            refine g_goto (q := 0) (t := 2257) dL_law_2204 (by decide) ?_
            exact g_forget (z_sub_r (z_sub_r (z_sub_r (z_sub_r (z_sub_r (z_sub_r (z_sub_r (z_sub_r (z_sub_r (z_sub_r (z_sub_r (z_sub_r (z_sub_r (z_sub_r (z_sub_r (z_sub_r (z_sub_r (z_sub_r (z_sub_r (z_sub_n (z_sub_n (z_sub_n (z_sub_n (z_sub_n (z_sub_n (z_sub_n (z_sub_n (z_sub_n (z_sub_n (z_sub_n (z_sub_n (z_sub_n (z_sub_n (z_sub_n (z_sub_n (z_sub_n (z_sub_n (z_sub_r (z_sub_n (z_sub_n (z_sub_n (z_sub_n (z_sub_n (z_sub_n (z_sub_n (z_sub_n (z_sub_n (z_sub_n (z_sub_n (z_sub_n z_sub_0)))))))))))))))))))))))))))))))))))))))))))))))))) hnxt
        have hnxt := hnx hb0.1 T hI hc (by omega)
        have hdw : T.2.1 42 b % 8 = 2 → (0 ≤ dn ∧ dn < 6) := fun e => by have := qd (by omega); omega
        by_cases c2 : T.2.1 42 b % 8 = 2
        · have qd2 := qd (by omega)
          have hdn := hdw c2
          have hwd := h.word hb hdn
          have hfl := (h.flag dn hdn.1 hdn.2).1
          rw [ewh, edn] at k65
          rw [ewh] at hwh
          rw [edn] at hwd hdn hfl
          refine g_iload (q := 2043) dL_law_2041 rfl rfl ?_
          refine g_if_lt (t := 2263) (q := 2046) dL_law_2043 (by decide) rfl (fun h2043 => (False.elim (by omega))) (fun h2043 => ?_)
          refine g_iload (q := 2048) dL_law_2046 rfl rfl ?_
          refine g_aload (q := 2050) dL_law_2048 rfl rfl ?_
          refine g_iconst (q := 2051) dL_law_2050 rfl ⟨by decide, by decide⟩ ?_
          refine g_ildv (q := 2052) (z := T.2.1 47 1) dL_law_2051 rfl ⟨by decide, rfl, rfl⟩ (by omega) (by omega) rfl ?_
          refine g_bipush (q := 2054) dL_law_2052 rfl ⟨by decide, by decide⟩ (by decide) ?_
          refine g_isub (q := 2055) dL_law_2054 rfl (by constructor <;> omega) ?_
          refine g_icmp_le (t := 2263) (q := 2058) dL_law_2055 (by decide) rfl (fun h2055 => (False.elim (by omega))) (fun h2055 => ?_)
          refine g_iload (q := 2060) dL_law_2058 rfl rfl ?_
          refine g_iload (q := 2062) dL_law_2060 rfl rfl ?_
          refine g_bipush (q := 2064) dL_law_2062 rfl ⟨by decide, by decide⟩ (by decide) ?_
          refine g_iandv (q := 2065) (z := b % 8) dL_law_2064 rfl (zAnd_m 3 (by decide) (by decide) (by omega) (by omega)) ?_
          refine g_ishrv (q := 2066) (z := zShr w (b % 8)) dL_law_2065 rfl (rfl) ?_
          refine g_iconst (q := 2067) dL_law_2066 rfl ⟨by decide, by decide⟩ ?_
          refine g_fnS (as := [zI (zShr w (b % 8)), zI 3]) (q := 2070) (u' := 500 * n + 30 - 2 * (k + 1) + 0) dL_law_2067 rfl ck_L_125 rfl rfl (Nat.le_of_ble_eq_true rfl) ⟨Nat.le_of_ble_eq_true rfl, Nat.le_of_ble_eq_true rfl⟩ rfl (show 500 * n + 30 - 2 * (k + 1) + 0 ≤ 100000 by omega) (s_L_low (by omega)) rfl ?_
          refine g_if_ne (t := 2076) (q := 2073) dL_law_2070 (by decide) rfl (fun h2070 => ?_) (fun h2070 => ?_)
          · refine g_aload (q := 2078) dL_law_2076 rfl rfl ?_
            refine g_iload (q := 2080) dL_law_2078 rfl rfl ?_
            refine g_ildv (q := 2081) (z := T.2.1 42 b) dL_law_2080 rfl ⟨by decide, rfl, rfl⟩ (by omega) (by omega) rfl ?_
            refine g_bipush (q := 2083) dL_law_2081 rfl ⟨by decide, by decide⟩ (by decide) ?_
            refine g_ishrv (q := 2084) (z := (T.2.1 42 b) / 64) dL_law_2083 rfl (zShr_p 6 (by decide) (by decide) (by constructor <;> omega)) ?_
            refine g_bipush (q := 2086) dL_law_2084 rfl ⟨by decide, by decide⟩ (by decide) ?_
            refine g_iandv (q := 2087) (z := ((T.2.1 42 b) / 64) % 16) dL_law_2086 rfl (zAnd_m 4 (by decide) (by decide) (by omega) (by omega)) ?_
            refine g_istore (q := 2089) dL_law_2087 rfl (Nat.le_of_ble_eq_true rfl) ?_
            refine g_aload (q := 2091) dL_law_2089 rfl rfl ?_
            refine g_iload (q := 2093) dL_law_2091 rfl rfl ?_
            refine g_ildv (q := 2094) (z := T.2.1 42 b) dL_law_2093 rfl ⟨by decide, rfl, rfl⟩ (by omega) (by omega) rfl ?_
            refine g_bipush (q := 2096) dL_law_2094 rfl ⟨by decide, by decide⟩ (by decide) ?_
            refine g_ishrv (q := 2097) (z := (T.2.1 42 b) / 8192) dL_law_2096 rfl (zShr_p 13 (by decide) (by decide) (by constructor <;> omega)) ?_
            refine g_bipush (q := 2099) dL_law_2097 rfl ⟨by decide, by decide⟩ (by decide) ?_
            refine g_iandv (q := 2100) (z := ((T.2.1 42 b) / 8192) % 8) dL_law_2099 rfl (zAnd_m 3 (by decide) (by decide) (by omega) (by omega)) ?_
            refine g_iconst (q := 2101) dL_law_2100 rfl ⟨by decide, by decide⟩ ?_
            refine g_isub (q := 2102) dL_law_2101 rfl (by constructor <;> omega) ?_
            refine g_istore (q := 2104) dL_law_2102 rfl (Nat.le_of_ble_eq_true rfl) ?_
            refine g_aload (q := 2106) dL_law_2104 rfl rfl ?_
            refine g_iload (q := 2108) dL_law_2106 rfl rfl ?_
            refine g_ildv (q := 2109) (z := T.2.1 42 b) dL_law_2108 rfl ⟨by decide, rfl, rfl⟩ (by omega) (by omega) rfl ?_
            refine g_fnS (as := [zI (T.2.1 42 b)]) (q := 2112) (u' := 500 * n + 30 - 2 * (k + 1) + 0) dL_law_2109 rfl ck_L_96 rfl rfl (Nat.le_of_ble_eq_true rfl) ⟨Nat.le_of_ble_eq_true rfl, Nat.le_of_ble_eq_true rfl⟩ rfl (show 500 * n + 30 - 2 * (k + 1) + 0 ≤ 100000 by omega) (s_L_state (by omega)) rfl ?_
            refine g_iconst (q := 2113) dL_law_2112 rfl ⟨by decide, by decide⟩ ?_
            refine g_icmp_ne (t := 2164) (q := 2116) dL_law_2113 (by decide) rfl (fun h2113 => (False.elim (by omega))) (fun h2113 => ?_)
            refine g_aload (q := 2118) dL_law_2116 rfl rfl ?_
            refine g_iconst (q := 2119) dL_law_2118 rfl ⟨by decide, by decide⟩ ?_
            refine g_ildv (q := 2120) (z := T.2.1 47 0) dL_law_2119 rfl ⟨by decide, rfl, rfl⟩ (by omega) (by omega) rfl ?_
            refine g_aload (q := 2122) dL_law_2120 rfl rfl ?_
            refine g_iload (q := 2124) dL_law_2122 rfl rfl ?_
            refine g_ildv (q := 2125) (z := T.2.1 43 b) dL_law_2124 rfl ⟨by decide, rfl, rfl⟩ (by omega) (by omega) rfl ?_
            refine g_bipush (q := 2127) dL_law_2125 rfl ⟨by decide, by decide⟩ (by decide) ?_
            refine g_iadd (q := 2128) dL_law_2127 rfl (by constructor <;> omega) ?_
            refine g_icmp_gt (t := 2164) (q := 2131) dL_law_2128 (by decide) rfl (fun h2128 => ?_) (fun h2128 => ?_)
            · refine g_iconst (q := 2165) dL_law_2164 rfl ⟨by decide, by decide⟩ ?_
              exact k65 _ (by omega)
            · refine g_aload_n (i := 3) (q := 2132) dL_law_2131 rfl rfl rfl ?_
              refine g_iload (q := 2134) dL_law_2132 rfl rfl ?_
              refine g_ildv (q := 2135) (z := T.2.1 40 (((T.2.1 42 b) / 64) % 16)) dL_law_2134 rfl ⟨by decide, rfl, rfl⟩ (by omega) (by omega) rfl ?_
              refine g_iconst (q := 2136) dL_law_2135 rfl ⟨by decide, by decide⟩ ?_
              refine g_icmp_eq (t := 2164) (q := 2139) dL_law_2136 (by decide) rfl (fun h2136 => ?_) (fun h2136 => ?_)
              · refine g_iconst (q := 2165) dL_law_2164 rfl ⟨by decide, by decide⟩ ?_
                exact k65 _ (by omega)
              · refine g_aload (q := 2141) dL_law_2139 rfl rfl ?_
                refine g_iload (q := 2143) dL_law_2141 rfl rfl ?_
                refine g_ildv (q := 2144) (z := T.2.1 41 (((T.2.1 42 b) / 64) % 16)) dL_law_2143 rfl ⟨by decide, rfl, rfl⟩ (by omega) (by omega) rfl ?_
                refine g_iload (q := 2146) dL_law_2144 rfl rfl ?_
                refine g_icmp_ne (t := 2164) (q := 2149) dL_law_2146 (by decide) rfl (fun h2146 => ?_) (fun h2146 => ?_)
                · refine g_iconst (q := 2165) dL_law_2164 rfl ⟨by decide, by decide⟩ ?_
                  exact k65 _ (by omega)
                · refine g_aload (q := 2151) dL_law_2149 rfl rfl ?_
                  refine g_iload (q := 2153) dL_law_2151 rfl rfl ?_
                  refine g_ildv (q := 2154) (z := T.2.1 46 ((((T.2.1 42 b) / 8192) % 8) - 1)) dL_law_2153 rfl ⟨by decide, rfl, rfl⟩ (by omega) (by omega) rfl ?_
                  refine g_fnS (as := [zI (T.2.1 46 ((((T.2.1 42 b) / 8192) % 8) - 1))]) (q := 2157) (u' := 500 * n + 30 - 2 * (k + 1) + 0) dL_law_2154 rfl ck_L_114 rfl rfl (Nat.le_of_ble_eq_true rfl) ⟨Nat.le_of_ble_eq_true rfl, Nat.le_of_ble_eq_true rfl⟩ rfl (show 500 * n + 30 - 2 * (k + 1) + 0 ≤ 100000 by omega) (s_L_isGone (by omega)) rfl ?_
                  refine g_if_ne (t := 2164) (q := 2160) dL_law_2157 (by decide) rfl (fun h2157 => ?_) (fun h2157 => ?_)
                  · refine g_iconst (q := 2165) dL_law_2164 rfl ⟨by decide, by decide⟩ ?_
                    exact k65 _ (by omega)
                  · refine g_iconst (q := 2161) dL_law_2160 rfl ⟨by decide, by decide⟩ ?_
                    refine g_goto (q := 0) (t := 2165) dL_law_2161 (by decide) ?_
                    exact k65 _ (by omega)
          · refine g_goto (q := 0) (t := 2257) dL_law_2073 (by decide) ?_
            exact z_G.widen (by omega) hnxt
        · rw [ewh, edn] at k65
          refine g_iload (q := 2043) dL_law_2041 rfl rfl ?_
          refine g_if_lt (t := 2263) (q := 2046) dL_law_2043 (by decide) rfl (fun h2043 => (False.elim (by omega))) (fun h2043 => ?_)
          refine g_iload (q := 2048) dL_law_2046 rfl rfl ?_
          refine g_aload (q := 2050) dL_law_2048 rfl rfl ?_
          refine g_iconst (q := 2051) dL_law_2050 rfl ⟨by decide, by decide⟩ ?_
          refine g_ildv (q := 2052) (z := T.2.1 47 1) dL_law_2051 rfl ⟨by decide, rfl, rfl⟩ (by omega) (by omega) rfl ?_
          refine g_bipush (q := 2054) dL_law_2052 rfl ⟨by decide, by decide⟩ (by decide) ?_
          refine g_isub (q := 2055) dL_law_2054 rfl (by constructor <;> omega) ?_
          refine g_icmp_le (t := 2263) (q := 2058) dL_law_2055 (by decide) rfl (fun h2055 => (False.elim (by omega))) (fun h2055 => ?_)
          refine g_iload (q := 2060) dL_law_2058 rfl rfl ?_
          refine g_iload (q := 2062) dL_law_2060 rfl rfl ?_
          refine g_bipush (q := 2064) dL_law_2062 rfl ⟨by decide, by decide⟩ (by decide) ?_
          refine g_iandv (q := 2065) (z := b % 8) dL_law_2064 rfl (zAnd_m 3 (by decide) (by decide) (by omega) (by omega)) ?_
          refine g_ishrv (q := 2066) (z := zShr w (b % 8)) dL_law_2065 rfl (rfl) ?_
          refine g_iconst (q := 2067) dL_law_2066 rfl ⟨by decide, by decide⟩ ?_
          refine g_fnS (as := [zI (zShr w (b % 8)), zI 3]) (q := 2070) (u' := 500 * n + 30 - 2 * (k + 1) + 0) dL_law_2067 rfl ck_L_125 rfl rfl (Nat.le_of_ble_eq_true rfl) ⟨Nat.le_of_ble_eq_true rfl, Nat.le_of_ble_eq_true rfl⟩ rfl (show 500 * n + 30 - 2 * (k + 1) + 0 ≤ 100000 by omega) (s_L_low (by omega)) rfl ?_
          refine g_if_ne (t := 2076) (q := 2073) dL_law_2070 (by decide) rfl (fun h2070 => ?_) (fun h2070 => ?_)
          · refine g_aload (q := 2078) dL_law_2076 rfl rfl ?_
            refine g_iload (q := 2080) dL_law_2078 rfl rfl ?_
            refine g_ildv (q := 2081) (z := T.2.1 42 b) dL_law_2080 rfl ⟨by decide, rfl, rfl⟩ (by omega) (by omega) rfl ?_
            refine g_bipush (q := 2083) dL_law_2081 rfl ⟨by decide, by decide⟩ (by decide) ?_
            refine g_ishrv (q := 2084) (z := (T.2.1 42 b) / 64) dL_law_2083 rfl (zShr_p 6 (by decide) (by decide) (by constructor <;> omega)) ?_
            refine g_bipush (q := 2086) dL_law_2084 rfl ⟨by decide, by decide⟩ (by decide) ?_
            refine g_iandv (q := 2087) (z := ((T.2.1 42 b) / 64) % 16) dL_law_2086 rfl (zAnd_m 4 (by decide) (by decide) (by omega) (by omega)) ?_
            refine g_istore (q := 2089) dL_law_2087 rfl (Nat.le_of_ble_eq_true rfl) ?_
            refine g_aload (q := 2091) dL_law_2089 rfl rfl ?_
            refine g_iload (q := 2093) dL_law_2091 rfl rfl ?_
            refine g_ildv (q := 2094) (z := T.2.1 42 b) dL_law_2093 rfl ⟨by decide, rfl, rfl⟩ (by omega) (by omega) rfl ?_
            refine g_bipush (q := 2096) dL_law_2094 rfl ⟨by decide, by decide⟩ (by decide) ?_
            refine g_ishrv (q := 2097) (z := (T.2.1 42 b) / 8192) dL_law_2096 rfl (zShr_p 13 (by decide) (by decide) (by constructor <;> omega)) ?_
            refine g_bipush (q := 2099) dL_law_2097 rfl ⟨by decide, by decide⟩ (by decide) ?_
            refine g_iandv (q := 2100) (z := ((T.2.1 42 b) / 8192) % 8) dL_law_2099 rfl (zAnd_m 3 (by decide) (by decide) (by omega) (by omega)) ?_
            refine g_iconst (q := 2101) dL_law_2100 rfl ⟨by decide, by decide⟩ ?_
            refine g_isub (q := 2102) dL_law_2101 rfl (by constructor <;> omega) ?_
            refine g_istore (q := 2104) dL_law_2102 rfl (Nat.le_of_ble_eq_true rfl) ?_
            refine g_aload (q := 2106) dL_law_2104 rfl rfl ?_
            refine g_iload (q := 2108) dL_law_2106 rfl rfl ?_
            refine g_ildv (q := 2109) (z := T.2.1 42 b) dL_law_2108 rfl ⟨by decide, rfl, rfl⟩ (by omega) (by omega) rfl ?_
            refine g_fnS (as := [zI (T.2.1 42 b)]) (q := 2112) (u' := 500 * n + 30 - 2 * (k + 1) + 0) dL_law_2109 rfl ck_L_96 rfl rfl (Nat.le_of_ble_eq_true rfl) ⟨Nat.le_of_ble_eq_true rfl, Nat.le_of_ble_eq_true rfl⟩ rfl (show 500 * n + 30 - 2 * (k + 1) + 0 ≤ 100000 by omega) (s_L_state (by omega)) rfl ?_
            refine g_iconst (q := 2113) dL_law_2112 rfl ⟨by decide, by decide⟩ ?_
            refine g_icmp_ne (t := 2164) (q := 2116) dL_law_2113 (by decide) rfl (fun h2113 => ?_) (fun h2113 => (False.elim (by omega)))
            refine g_iconst (q := 2165) dL_law_2164 rfl ⟨by decide, by decide⟩ ?_
            exact k65 _ (by omega)
          · refine g_goto (q := 0) (t := 2257) dL_law_2073 (by decide) ?_
            exact z_G.widen (by omega) hnxt
theorem lc_rev {S : zS} (hI : zInv n S) (hg : S.1 2 < 46) (hn : n < 150) (hK : ∀ U, zInv (n + 1) U → z_G (mLw hh) F (500 * n + 60) 3002 [some (zR 49), some (zR 0), some (zR 7), some (zR 40), some (zR 41), some (zR 42), some (zR 43), some (zR 44), some (zR 48), some (zR 45), some (zR 46), some (zR 47), some (zI (n : Int)), some (zI v), some (zI w), none, none, none, some (zI 1), none, none, none, none, none, none, none, none, none, none, none, none, none, none, none, none, none, none, none, none, none, none, none, none, none, none, none, none, none, none, none] [] U) : z_G (mLw hh) F (500 * n + 10) 2023 [some (zR 49), some (zR 0), some (zR 7), some (zR 40), some (zR 41), some (zR 42), some (zR 43), some (zR 44), some (zR 48), some (zR 45), some (zR 46), some (zR 47), some (zI (n : Int)), some (zI v), some (zI w), some (zI i), some (zI (zdg i)), some (zI f), some (zI 1), none, none, none, none, none, none, none, none, none, none, none, none, none, none, none, none, none, none, none, none, none, none, none, none, none, none, none, none, none, none, none] [] S := by
  have h := hI.1
  have hord := h.ord
  have hor := h.ordr
  obtain ⟨c, ec⟩ := zb_nat hor.1
  by_cases c0 : S.2.1 47 1 = 0
  · skip
    refine g_aload (q := 2025) dL_law_2023 rfl rfl ?_
    refine g_iconst (q := 2026) dL_law_2025 rfl ⟨by decide, by decide⟩ ?_
    refine g_ildv (q := 2027) (z := S.2.1 47 1) dL_law_2026 rfl ⟨by decide, rfl, rfl⟩ (by omega) (by omega) rfl ?_
    refine g_if_ne (t := 2033) (q := 2030) dL_law_2027 (by decide) rfl (fun h2027 => (False.elim (by omega))) (fun h2027 => ?_)
    refine g_goto (q := 0) (t := 3002) dL_law_2030 (by decide) ?_
    exact g_forget (z_sub_r (z_sub_r (z_sub_r (z_sub_r (z_sub_r (z_sub_r (z_sub_r (z_sub_r (z_sub_r (z_sub_r (z_sub_r (z_sub_r (z_sub_r (z_sub_r (z_sub_r (z_sub_n (z_sub_n (z_sub_n (z_sub_r (z_sub_n (z_sub_n (z_sub_n (z_sub_n (z_sub_n (z_sub_n (z_sub_n (z_sub_n (z_sub_n (z_sub_n (z_sub_n (z_sub_n (z_sub_n (z_sub_n (z_sub_n (z_sub_n (z_sub_n (z_sub_n (z_sub_n (z_sub_n (z_sub_n (z_sub_n (z_sub_n (z_sub_n (z_sub_n (z_sub_n (z_sub_n (z_sub_n (z_sub_n (z_sub_n (z_sub_n z_sub_0)))))))))))))))))))))))))))))))))))))))))))))))))) (z_G.widen (by omega) (hK _ hI.same))
  · have hl := lc_rev_loop (hh := hh) (F := F) (v := v) (w := w) (i := i) (f := f) (c := c) hn (fun U hU => by
      refine g_goto (q := 0) (t := 3002) dL_law_2263 (by decide) ?_
      exact g_forget (z_sub_r (z_sub_r (z_sub_r (z_sub_r (z_sub_r (z_sub_r (z_sub_r (z_sub_r (z_sub_r (z_sub_r (z_sub_r (z_sub_r (z_sub_r (z_sub_r (z_sub_r (z_sub_n (z_sub_n (z_sub_n (z_sub_r (z_sub_n (z_sub_n (z_sub_n (z_sub_n (z_sub_n (z_sub_n (z_sub_n (z_sub_n (z_sub_n (z_sub_n (z_sub_n (z_sub_n (z_sub_n (z_sub_n (z_sub_n (z_sub_n (z_sub_n (z_sub_n (z_sub_n (z_sub_n (z_sub_n (z_sub_n (z_sub_n (z_sub_n (z_sub_n (z_sub_n (z_sub_n (z_sub_n (z_sub_n (z_sub_n (z_sub_n z_sub_0)))))))))))))))))))))))))))))))))))))))))))))))))) (z_G.widen (by omega) (hK _ hU.same))) 5 (S.2.1 47 1 - 1) S hI ec (by omega) (by omega) (by omega) (by omega)
    refine g_aload (q := 2025) dL_law_2023 rfl rfl ?_
    refine g_iconst (q := 2026) dL_law_2025 rfl ⟨by decide, by decide⟩ ?_
    refine g_ildv (q := 2027) (z := S.2.1 47 1) dL_law_2026 rfl ⟨by decide, rfl, rfl⟩ (by omega) (by omega) rfl ?_
    refine g_if_ne (t := 2033) (q := 2030) dL_law_2027 (by decide) rfl (fun h2027 => ?_) (fun h2027 => (False.elim (by omega)))
    refine g_aload (q := 2035) dL_law_2033 rfl rfl ?_
    refine g_iconst (q := 2036) dL_law_2035 rfl ⟨by decide, by decide⟩ ?_
    refine g_ildv (q := 2037) (z := S.2.1 47 1) dL_law_2036 rfl ⟨by decide, rfl, rfl⟩ (by omega) (by omega) rfl ?_
    refine g_iconst (q := 2038) dL_law_2037 rfl ⟨by decide, by decide⟩ ?_
    refine g_isub (q := 2039) dL_law_2038 rfl (by constructor <;> omega) ?_
    refine g_istore (q := 2041) dL_law_2039 rfl (Nat.le_of_ble_eq_true rfl) ?_
    exact z_G.widen (by omega) hl
end
