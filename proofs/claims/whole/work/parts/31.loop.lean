/-! ===== the law: its loop, closed ===== -/
section
variable {hh : List (Nat × Nat × Nat × Nat)} {L : Nat} {xs : Nat → Int} {c0 s0 : Nat}
theorem lc_loop {Inv : Nat → zS → Prop} (sim : z_Sim Inv) (hL0 : L ≤ 2560) (hx : ∀ j, z_in (xs j)) (hc : c0 + 6000 ≤ 601024) (hs : s0 + 6 * 6000 ≤ 7293033) : ∀ (k n : Nat) (S : zS) (v5 v6 : Option zV), (L : Int) - 5 * n < 5 * k → 5 * n ≤ L → Inv n S → z_G (mLw hh) (zFL L xs c0 s0) (10 * n) 23 [some (zR 64), some (zR 0), some (zR 7), some (zR 63), some (zI (5 * n : Int)), v5, v6] [] S := by
  obtain ⟨m0, m1, m2, m3, m4, m5, m6, m7, m8, m9, m10, m11, m12, m13, m14, m15, m16, m17, m18, m19, m20, m21, m22, m23, m24, m25, mw⟩ := sim
  intro k
  induction k with
  | zero =>
    intro n S v5 v6 hk hn hI
    exact absurd hk (by omega)
  | succ k ih =>
    intro n S v5 v6 hk hn hI
    by_cases hend : 5 * n + 5 ≤ L
    · have hK : ∀ S2, Inv (n + 1) S2 → ∀ v5 v6, z_G (mLw hh) (zFL L xs c0 s0) (10 * n + 10) 1832 [some (zR 64), some (zR 0), some (zR 7), some (zR 63), some (zI (5 * n : Int)), v5, v6] [] S2 := by
        intro S2 hI2 v5 v6
        have hnx := ih (n + 1) S2 v5 v6 (by omega) (by omega) hI2
        rw [show (5 * ((n + 1 : Nat) : Int)) = 5 * (n : Int) + 5 by omega] at hnx
        refine g_iinc (q := 1835) (i := 4) (n := 5) dL_law_1832 rfl rfl (by constructor <;> omega) ?_
        refine g_goto (q := 0) (t := 23) dL_law_1835 (by decide) ?_
        exact hnx
      refine g_iload (q := 25) dL_law_23 rfl rfl ?_
      refine g_aload_n (i := 0) (q := 26) dL_law_25 rfl rfl rfl ?_
      refine g_slen hL0 (q := 27) dL_law_26 rfl ?_
      refine g_iconst (q := 28) dL_law_27 rfl ⟨by decide, by decide⟩ ?_
      refine g_isub (q := 29) dL_law_28 rfl (by constructor <;> omega) ?_
      refine g_icmp_gt (t := 1838) (q := 32) dL_law_29 (by decide) rfl (fun h29 => (False.elim (by omega))) (fun h29 => ?_)
      refine g_aload_n (i := 0) (q := 33) dL_law_32 rfl rfl rfl ?_
      refine g_iload (q := 35) dL_law_33 rfl rfl ?_
      refine g_sld (q := 36) dL_law_35 rfl (by omega) (by omega) ?_
      refine g_bipush (q := 38) dL_law_36 rfl ⟨by decide, by decide⟩ (by decide) ?_
      refine g_iand31 (q := 39) dL_law_38 rfl (fun w w0 w1 => ?_)
      have hw : w = 0 ∨ w = 1 ∨ w = 2 ∨ w = 3 ∨ w = 4 ∨ w = 5 ∨ w = 6 ∨ w = 7 ∨ w = 8 ∨ w = 9 ∨ w = 10 ∨ w = 11 ∨ w = 12 ∨ w = 13 ∨ w = 14 ∨ w = 15 ∨ w = 16 ∨ w = 17 ∨ w = 18 ∨ w = 19 ∨ w = 20 ∨ w = 21 ∨ w = 22 ∨ w = 23 ∨ w = 24 ∨ w = 25 ∨ 25 < w := by omega
      rcases hw with rfl | rfl | rfl | rfl | rfl | rfl | rfl | rfl | rfl | rfl | rfl | rfl | rfl | rfl | rfl | rfl | rfl | rfl | rfl | rfl | rfl | rfl | rfl | rfl | rfl | rfl | hw
      · exact g_swIn (q := 0) (t := 156) dL_law_39 (by decide) (by decide) rfl (by decide) (lc_give m0 hL0 (by omega) hI (by omega) hx hK)
      · exact g_swIn (q := 0) (t := 224) dL_law_39 (by decide) (by decide) rfl (by decide) (lc_giveBack m1 hL0 (by omega) hI (by omega) hx hK)
      · exact g_swIn (q := 0) (t := 280) dL_law_39 (by decide) (by decide) rfl (by decide) (lc_assign m2 hL0 (by omega) hI (by omega) hx hK)
      · exact g_swIn (q := 0) (t := 348) dL_law_39 (by decide) (by decide) rfl (by decide) (lc_end m3 hL0 (by omega) hI (by omega) hx hK)
      · exact g_swIn (q := 0) (t := 404) dL_law_39 (by decide) (by decide) rfl (by decide) (lc_swap m4 hL0 (by omega) hI (by omega) hx hK)
      · exact g_swIn (q := 0) (t := 472) dL_law_39 (by decide) (by decide) rfl (by decide) (lc_emergency m5 hL0 (by omega) hI (by omega) hx hK)
      · exact g_swIn (q := 0) (t := 528) dL_law_39 (by decide) (by decide) rfl (by decide) (lc_endFirm m6 hL0 (by omega) hI (by omega) hx hK)
      · exact g_swIn (q := 0) (t := 596) dL_law_39 (by decide) (by decide) rfl (by decide) (lc_order m7 hL0 (by omega) hI (by omega) hx hK)
      · exact g_swIn (q := 0) (t := 688) dL_law_39 (by decide) (by decide) rfl (by decide) (lc_cancel m8 hL0 (by omega) hI (by omega) hx hK)
      · exact g_swIn (q := 0) (t := 744) dL_law_39 (by decide) (by decide) rfl (by decide) (lc_reverse m9 hL0 (by omega) hI (by omega) hx hK)
      · exact g_swIn (q := 0) (t := 800) dL_law_39 (by decide) (by decide) rfl (by decide) (lc_pass m10 hL0 (by omega) hI (by omega) hx hK)
      · exact g_swIn (q := 0) (t := 856) dL_law_39 (by decide) (by decide) rfl (by decide) (lc_setLag m11 hL0 (by omega) hI (by omega) hx hK)
      · exact g_swIn (q := 0) (t := 924) dL_law_39 (by decide) (by decide) rfl (by decide) (lc_setDown m12 hL0 (by omega) hI (by omega) hx hK)
      · exact g_swIn (q := 0) (t := 1015) dL_law_39 (by decide) (by decide) rfl (by decide) (lc_correct m13 hL0 (by omega) hI (by omega) hx hK)
      · exact g_swIn (q := 0) (t := 1071) dL_law_39 (by decide) (by decide) rfl (by decide) (lc_server m14 hL0 (by omega) hI (by omega) hx hK)
      · exact g_swIn (q := 0) (t := 1127) dL_law_39 (by decide) (by decide) rfl (by decide) (lc_serverAnew m15 hL0 (by omega) hI (by omega) hx hK)
      · exact g_swIn (q := 0) (t := 1183) dL_law_39 (by decide) (by decide) rfl (by decide) (lc_number m16 hL0 (by omega) hI (by omega) hx hK)
      · exact g_swIn (q := 0) (t := 1251) dL_law_39 (by decide) (by decide) rfl (by decide) (lc_of m17 hL0 (by omega) hI (by omega) hx hK)
      · exact g_swIn (q := 0) (t := 1319) dL_law_39 (by decide) (by decide) rfl (by decide) (lc_room m18 hL0 (by omega) hI (by omega) hx hK)
      · exact g_swIn (q := 0) (t := 1375) dL_law_39 (by decide) (by decide) rfl (by decide) (lc_firm m19 hL0 (by omega) hI (by omega) hx hK)
      · exact g_swIn (q := 0) (t := 1443) dL_law_39 (by decide) (by decide) rfl (by decide) (lc_known m20 hL0 (by omega) hI (by omega) hx hK)
      · exact g_swIn (q := 0) (t := 1511) dL_law_39 (by decide) (by decide) rfl (by decide) (lc_audit m21 hL0 (by omega) hI (by omega) hx hK)
      · exact g_swIn (q := 0) (t := 1567) dL_law_39 (by decide) (by decide) rfl (by decide) (lc_hop m22 hL0 (by omega) hI (by omega) hx hK)
      · exact g_swIn (q := 0) (t := 1659) dL_law_39 (by decide) (by decide) rfl (by decide) (lc_why m23 hL0 (by omega) hI (by omega) hx hK)
      · exact g_swIn (q := 0) (t := 1739) dL_law_39 (by decide) (by decide) rfl (by decide) (lc_dial m24 hL0 (by omega) hI (by omega) hx hK)
      · exact g_swIn (q := 0) (t := 1819) dL_law_39 (by decide) (by decide) rfl (by decide) (lc_minute m25 hL0 (by omega) hI (by omega) hx hK)
      · exact g_swOut (q := 0) (t := 1832) dL_law_39 (by omega) (by decide) (z_G.widen (by omega) (hK S (mw n S hI) _ _))
    · skip
      refine g_iload (q := 25) dL_law_23 rfl rfl ?_
      refine g_aload_n (i := 0) (q := 26) dL_law_25 rfl rfl rfl ?_
      refine g_slen hL0 (q := 27) dL_law_26 rfl ?_
      refine g_iconst (q := 28) dL_law_27 rfl ⟨by decide, by decide⟩ ?_
      refine g_isub (q := 29) dL_law_28 rfl (by constructor <;> omega) ?_
      refine g_icmp_gt (t := 1838) (q := 32) dL_law_29 (by decide) rfl (fun h29 => ?_) (fun h29 => (False.elim (by omega)))
      refine g_iconst (q := 1839) dL_law_1838 rfl ⟨by decide, by decide⟩ ?_
      exact g_lawret hc hs (by omega) dL_law_1839
end
